theorem w_290 : Cond.fieldLink RX1 31 "StuckatBench$Chip" "chainPlace" "I" ∈ TG := tg (sg_2 _ (List.mem_of_getElem? (i := 200) (by decide +kernel))) (by decide +kernel)
theorem w_291 : Cond.methodLink RX11 465 yX1_suspectedPlaces ∈ TG := tg (sg_4 _ (List.mem_of_getElem? (i := 55) (by decide +kernel))) (by decide +kernel)
theorem w_292 : Cond.code yX1_suspectedPlaces cX1_suspectedPlaces 3 (some .int) ∈ TG := tg (sg_4 _ (List.mem_of_getElem? (i := 58) (by decide +kernel))) (by decide +kernel)
theorem w_293 : Cond.instanceMethod yX1_suspectedPlaces ∈ TG := tg (sg_4 _ (List.mem_of_getElem? (i := 56) (by decide +kernel))) (by decide +kernel)
theorem w_294 : Cond.selects RX1 yX1_suspectedPlaces yX1_suspectedPlaces ∈ TG := tg (sg_4 _ (List.mem_of_getElem? (i := 57) (by decide +kernel))) (by decide +kernel)
theorem w_295 : Cond.methodLink RX11 343 yX7_neededFromLast ∈ TG := tg (sg_4 _ (List.mem_of_getElem? (i := 3) (by decide +kernel))) (by decide +kernel)
theorem w_296 : Cond.code yX7_neededFromLast cX7_neededFromLast 6 (some .long) ∈ TG := tg (sg_4 _ (List.mem_of_getElem? (i := 6) (by decide +kernel))) (by decide +kernel)
theorem w_297 : Cond.instanceMethod yX7_neededFromLast ∈ TG := tg (sg_4 _ (List.mem_of_getElem? (i := 4) (by decide +kernel))) (by decide +kernel)
theorem w_298 : Cond.selects RX7 yX7_neededFromLast yX7_neededFromLast ∈ TG := tg (sg_4 _ (List.mem_of_getElem? (i := 5) (by decide +kernel))) (by decide +kernel)
theorem w_299 : Cond.methodLink RX11 347 yX7_keep ∈ TG := tg (sg_4 _ (List.mem_of_getElem? (i := 12) (by decide +kernel))) (by decide +kernel)
theorem w_300 : Cond.code yX7_keep cX7_keep 5 none ∈ TG := tg (sg_4 _ (List.mem_of_getElem? (i := 15) (by decide +kernel))) (by decide +kernel)
theorem w_301 : Cond.instanceMethod yX7_keep ∈ TG := tg (sg_4 _ (List.mem_of_getElem? (i := 13) (by decide +kernel))) (by decide +kernel)
theorem w_302 : Cond.selects RX7 yX7_keep yX7_keep ∈ TG := tg (sg_4 _ (List.mem_of_getElem? (i := 14) (by decide +kernel))) (by decide +kernel)
theorem dX11_shortWires_0 : decode cX11_shortWires 0 = .ok (.aload_n 0, 1) := by decide +kernel
theorem dX11_shortWires_1 : decode cX11_shortWires 1 = .ok (.iload_n 1, 1) := by decide +kernel
theorem dX11_shortWires_2 : decode cX11_shortWires 2 = .ok (.invokevirtual 515, 3) := by decide +kernel
theorem dX11_shortWires_5 : decode cX11_shortWires 5 = .ok (.aload_n 0, 1) := by decide +kernel
theorem dX11_shortWires_6 : decode cX11_shortWires 6 = .ok (.iload_n 2, 1) := by decide +kernel
theorem dX11_shortWires_7 : decode cX11_shortWires 7 = .ok (.invokevirtual 515, 3) := by decide +kernel
theorem dX11_shortWires_10 : decode cX11_shortWires 10 = .ok (.iload_n 1, 1) := by decide +kernel
theorem dX11_shortWires_11 : decode cX11_shortWires 11 = .ok (.iload_n 2, 1) := by decide +kernel
theorem dX11_shortWires_12 : decode cX11_shortWires 12 = .ok (.if_icmp .ne 11, 3) := by decide +kernel
theorem dX11_shortWires_15 : decode cX11_shortWires 15 = .ok (.new 114, 3) := by decide +kernel
theorem dX11_shortWires_18 : decode cX11_shortWires 18 = .ok (.dup, 1) := by decide +kernel
theorem dX11_shortWires_19 : decode cX11_shortWires 19 = .ok (.invokespecial 116, 3) := by decide +kernel
theorem dX11_shortWires_22 : decode cX11_shortWires 22 = .ok (.athrow, 1) := by decide +kernel
theorem dX11_shortWires_23 : decode cX11_shortWires 23 = .ok (.aload_n 0, 1) := by decide +kernel
theorem dX11_shortWires_24 : decode cX11_shortWires 24 = .ok (.getfield 85, 3) := by decide +kernel
theorem dX11_shortWires_27 : decode cX11_shortWires 27 = .ok (.iload_n 1, 1) := by decide +kernel
theorem dX11_shortWires_28 : decode cX11_shortWires 28 = .ok (.iload_n 2, 1) := by decide +kernel
theorem dX11_shortWires_29 : decode cX11_shortWires 29 = .ok (.invokevirtual 524, 3) := by decide +kernel
theorem dX11_shortWires_32 : decode cX11_shortWires 32 = .ok (.ireturn, 1) := by decide +kernel
theorem dX11_signature_0 : decode cX11_signature 0 = .ok (.aload_n 0, 1) := by decide +kernel
theorem dX11_signature_1 : decode cX11_signature 1 = .ok (.getfield 37, 3) := by decide +kernel
theorem dX11_signature_4 : decode cX11_signature 4 = .ok (.aload_n 0, 1) := by decide +kernel
theorem dX11_signature_5 : decode cX11_signature 5 = .ok (.getfield 28, 3) := by decide +kernel
theorem dX11_signature_8 : decode cX11_signature 8 = .ok (.invokevirtual 378, 3) := by decide +kernel
theorem dX11_signature_11 : decode cX11_signature 11 = .ok (.aload_n 0, 1) := by decide +kernel
theorem dX11_signature_12 : decode cX11_signature 12 = .ok (.getfield 37, 3) := by decide +kernel
theorem dX11_signature_15 : decode cX11_signature 15 = .ok (.invokevirtual 381, 3) := by decide +kernel
theorem dX11_signature_18 : decode cX11_signature 18 = .ok (.iload_n 1, 1) := by decide +kernel
theorem dX11_signature_19 : decode cX11_signature 19 = .ok (.iconst (-1), 1) := by decide +kernel
theorem dX11_signature_20 : decode cX11_signature 20 = .ok (.if_icmp .eq 17, 3) := by decide +kernel
theorem dX11_signature_23 : decode cX11_signature 23 = .ok (.aload_n 0, 1) := by decide +kernel
theorem dX11_signature_24 : decode cX11_signature 24 = .ok (.iload_n 1, 1) := by decide +kernel
theorem dX11_signature_25 : decode cX11_signature 25 = .ok (.invokevirtual 319, 3) := by decide +kernel
theorem dX11_signature_28 : decode cX11_signature 28 = .ok (.aload_n 0, 1) := by decide +kernel
theorem dX11_signature_29 : decode cX11_signature 29 = .ok (.getfield 37, 3) := by decide +kernel
theorem dX11_signature_32 : decode cX11_signature 32 = .ok (.iload_n 1, 1) := by decide +kernel
theorem dX11_signature_33 : decode cX11_signature 33 = .ok (.invokevirtual 383, 3) := by decide +kernel
theorem dX11_signature_36 : decode cX11_signature 36 = .ok (.pop2, 1) := by decide +kernel
theorem dX11_signature_37 : decode cX11_signature 37 = .ok (.aload_n 0, 1) := by decide +kernel
theorem dX11_signature_38 : decode cX11_signature 38 = .ok (.invokevirtual 387, 3) := by decide +kernel
theorem dX11_signature_41 : decode cX11_signature 41 = .ok (.ireturn, 1) := by decide +kernel
theorem dX11_slow_0 : decode cX11_slow 0 = .ok (.aload_n 0, 1) := by decide +kernel
theorem dX11_slow_1 : decode cX11_slow 1 = .ok (.iload_n 1, 1) := by decide +kernel
theorem dX11_slow_2 : decode cX11_slow 2 = .ok (.invokevirtual 149, 3) := by decide +kernel
theorem dX11_slow_5 : decode cX11_slow 5 = .ok (.aload_n 0, 1) := by decide +kernel
theorem dX11_slow_6 : decode cX11_slow 6 = .ok (.invokevirtual 177, 3) := by decide +kernel
theorem dX11_slow_9 : decode cX11_slow 9 = .ok (.aload_n 0, 1) := by decide +kernel
theorem dX11_slow_10 : decode cX11_slow 10 = .ok (.getfield 21, 3) := by decide +kernel
theorem dX11_slow_13 : decode cX11_slow 13 = .ok (.getfield 238, 3) := by decide +kernel
theorem dX11_slow_16 : decode cX11_slow 16 = .ok (.bipush 8, 2) := by decide +kernel
theorem dX11_slow_18 : decode cX11_slow 18 = .ok (.if_icmp .lt 11, 3) := by decide +kernel
theorem dX11_slow_21 : decode cX11_slow 21 = .ok (.new 141, 3) := by decide +kernel
theorem dX11_slow_24 : decode cX11_slow 24 = .ok (.dup, 1) := by decide +kernel
theorem dX11_slow_25 : decode cX11_slow 25 = .ok (.invokespecial 143, 3) := by decide +kernel
theorem dX11_slow_28 : decode cX11_slow 28 = .ok (.athrow, 1) := by decide +kernel
theorem dX11_slow_29 : decode cX11_slow 29 = .ok (.aload_n 0, 1) := by decide +kernel
theorem dX11_slow_30 : decode cX11_slow 30 = .ok (.getfield 21, 3) := by decide +kernel
theorem dX11_slow_33 : decode cX11_slow 33 = .ok (.iload_n 1, 1) := by decide +kernel
theorem dX11_slow_34 : decode cX11_slow 34 = .ok (.iload_n 2, 1) := by decide +kernel
theorem dX11_slow_35 : decode cX11_slow 35 = .ok (.ifCond .eq 7, 3) := by decide +kernel
theorem dX11_slow_38 : decode cX11_slow 38 = .ok (.iconst 0, 1) := by decide +kernel
theorem dX11_slow_39 : decode cX11_slow 39 = .ok (.goto 4, 3) := by decide +kernel
theorem dX11_slow_42 : decode cX11_slow 42 = .ok (.iconst 1, 1) := by decide +kernel
theorem dX11_slow_43 : decode cX11_slow 43 = .ok (.invokevirtual 241, 3) := by decide +kernel
theorem dX11_slow_46 : decode cX11_slow 46 = .ok (.ireturn, 1) := by decide +kernel
theorem dX11_suspects_0 : decode cX11_suspects 0 = .ok (.aload_n 0, 1) := by decide +kernel
theorem dX11_suspects_1 : decode cX11_suspects 1 = .ok (.getfield 71, 3) := by decide +kernel
theorem dX11_suspects_4 : decode cX11_suspects 4 = .ok (.invokevirtual 465, 3) := by decide +kernel
theorem dX11_suspects_7 : decode cX11_suspects 7 = .ok (.ireturn, 1) := by decide +kernel
theorem dX11_tally_0 : decode cX11_tally 0 = .ok (.aload_n 0, 1) := by decide +kernel
theorem dX11_tally_1 : decode cX11_tally 1 = .ok (.iload_n 1, 1) := by decide +kernel
theorem dX11_tally_2 : decode cX11_tally 2 = .ok (.invokevirtual 319, 3) := by decide +kernel
theorem dX11_tally_5 : decode cX11_tally 5 = .ok (.aload_n 0, 1) := by decide +kernel
theorem dX11_tally_6 : decode cX11_tally 6 = .ok (.getfield 21, 3) := by decide +kernel
theorem dX11_tally_9 : decode cX11_tally 9 = .ok (.aload_n 0, 1) := by decide +kernel
theorem dX11_tally_10 : decode cX11_tally 10 = .ok (.getfield 21, 3) := by decide +kernel
theorem dX11_tally_13 : decode cX11_tally 13 = .ok (.getfield 222, 3) := by decide +kernel
theorem dX11_tally_16 : decode cX11_tally 16 = .ok (.iload_n 1, 1) := by decide +kernel
theorem dX11_tally_17 : decode cX11_tally 17 = .ok (.iaload, 1) := by decide +kernel
theorem dX11_tally_18 : decode cX11_tally 18 = .ok (.invokevirtual 450, 3) := by decide +kernel
theorem dX11_tally_21 : decode cX11_tally 21 = .ok (.ireturn, 1) := by decide +kernel
theorem dX11_testPoint_0 : decode cX11_testPoint 0 = .ok (.aload_n 0, 1) := by decide +kernel
theorem dX11_testPoint_1 : decode cX11_testPoint 1 = .ok (.iload_n 1, 1) := by decide +kernel
theorem dX11_testPoint_2 : decode cX11_testPoint 2 = .ok (.invokevirtual 149, 3) := by decide +kernel
theorem dX11_testPoint_5 : decode cX11_testPoint 5 = .ok (.aload_n 0, 1) := by decide +kernel
theorem dX11_testPoint_6 : decode cX11_testPoint 6 = .ok (.invokevirtual 177, 3) := by decide +kernel
theorem dX11_testPoint_9 : decode cX11_testPoint 9 = .ok (.aload_n 0, 1) := by decide +kernel
theorem dX11_testPoint_10 : decode cX11_testPoint 10 = .ok (.getfield 10, 3) := by decide +kernel
theorem dX11_testPoint_13 : decode cX11_testPoint 13 = .ok (.getfield 180, 3) := by decide +kernel
theorem dX11_testPoint_16 : decode cX11_testPoint 16 = .ok (.iload_n 1, 1) := by decide +kernel
theorem dX11_testPoint_17 : decode cX11_testPoint 17 = .ok (.iconst 1, 1) := by decide +kernel
theorem dX11_testPoint_18 : decode cX11_testPoint 18 = .ok (.bastore, 1) := by decide +kernel
theorem dX11_testPoint_19 : decode cX11_testPoint 19 = .ok (.aload_n 0, 1) := by decide +kernel
theorem dX11_testPoint_20 : decode cX11_testPoint 20 = .ok (.getfield 10, 3) := by decide +kernel
theorem dX11_testPoint_23 : decode cX11_testPoint 23 = .ok (.invokevirtual 183, 3) := by decide +kernel
theorem dX11_testPoint_26 : decode cX11_testPoint 26 = .ok (.aload_n 0, 1) := by decide +kernel
theorem dX11_testPoint_27 : decode cX11_testPoint 27 = .ok (.getfield 21, 3) := by decide +kernel
theorem dX11_testPoint_30 : decode cX11_testPoint 30 = .ok (.invokevirtual 186, 3) := by decide +kernel
theorem dX11_testPoint_33 : decode cX11_testPoint 33 = .ok (.aload_n 0, 1) := by decide +kernel
theorem dX11_testPoint_34 : decode cX11_testPoint 34 = .ok (.getfield 10, 3) := by decide +kernel
theorem dX11_testPoint_37 : decode cX11_testPoint 37 = .ok (.getfield 189, 3) := by decide +kernel
theorem dX11_testPoint_40 : decode cX11_testPoint 40 = .ok (.ireturn, 1) := by decide +kernel
theorem dX11_tie_0 : decode cX11_tie 0 = .ok (.aload_n 0, 1) := by decide +kernel
theorem dX11_tie_1 : decode cX11_tie 1 = .ok (.iload_n 1, 1) := by decide +kernel
theorem dX11_tie_2 : decode cX11_tie 2 = .ok (.invokevirtual 319, 3) := by decide +kernel
theorem dX11_tie_5 : decode cX11_tie 5 = .ok (.aload_n 0, 1) := by decide +kernel
theorem dX11_tie_6 : decode cX11_tie 6 = .ok (.getfield 21, 3) := by decide +kernel
theorem dX11_tie_9 : decode cX11_tie 9 = .ok (.getfield 219, 3) := by decide +kernel
theorem dX11_tie_12 : decode cX11_tie 12 = .ok (.iload_n 1, 1) := by decide +kernel
theorem dX11_tie_13 : decode cX11_tie 13 = .ok (.iaload, 1) := by decide +kernel
theorem dX11_tie_14 : decode cX11_tie 14 = .ok (.ifCond .lt 11, 3) := by decide +kernel
theorem dX11_tie_17 : decode cX11_tie 17 = .ok (.new 114, 3) := by decide +kernel
theorem dX11_tie_20 : decode cX11_tie 20 = .ok (.dup, 1) := by decide +kernel
theorem dX11_tie_21 : decode cX11_tie 21 = .ok (.invokespecial 116, 3) := by decide +kernel
theorem dX11_tie_24 : decode cX11_tie 24 = .ok (.athrow, 1) := by decide +kernel
theorem dX11_tie_25 : decode cX11_tie 25 = .ok (.aload_n 0, 1) := by decide +kernel
theorem dX11_tie_26 : decode cX11_tie 26 = .ok (.getfield 21, 3) := by decide +kernel
theorem dX11_tie_29 : decode cX11_tie 29 = .ok (.getfield 216, 3) := by decide +kernel
theorem dX11_tie_32 : decode cX11_tie 32 = .ok (.iload_n 1, 1) := by decide +kernel
theorem dX11_tie_33 : decode cX11_tie 33 = .ok (.iaload, 1) := by decide +kernel
theorem dX11_tie_34 : decode cX11_tie 34 = .ok (.istore_n 2, 1) := by decide +kernel
theorem dX11_tie_35 : decode cX11_tie 35 = .ok (.aload_n 0, 1) := by decide +kernel
theorem dX11_tie_36 : decode cX11_tie 36 = .ok (.getfield 10, 3) := by decide +kernel
theorem dX11_tie_39 : decode cX11_tie 39 = .ok (.getfield 322, 3) := by decide +kernel
theorem dX11_tie_42 : decode cX11_tie 42 = .ok (.iload_n 2, 1) := by decide +kernel
theorem dX11_tie_43 : decode cX11_tie 43 = .ok (.iaload, 1) := by decide +kernel
theorem dX11_tie_44 : decode cX11_tie 44 = .ok (.iconst 2, 1) := by decide +kernel
theorem dX11_tie_45 : decode cX11_tie 45 = .ok (.if_icmp .ne 14, 3) := by decide +kernel
theorem dX11_tie_48 : decode cX11_tie 48 = .ok (.aload_n 0, 1) := by decide +kernel
theorem dX11_tie_49 : decode cX11_tie 49 = .ok (.getfield 37, 3) := by decide +kernel
theorem dX11_tie_52 : decode cX11_tie 52 = .ok (.iload_n 1, 1) := by decide +kernel
theorem dX11_tie_53 : decode cX11_tie 53 = .ok (.invokevirtual 306, 3) := by decide +kernel
theorem dX11_tie_56 : decode cX11_tie 56 = .ok (.ifCond .lt 11, 3) := by decide +kernel
theorem dX11_tie_59 : decode cX11_tie 59 = .ok (.new 125, 3) := by decide +kernel
theorem dX11_tie_62 : decode cX11_tie 62 = .ok (.dup, 1) := by decide +kernel
theorem dX11_tie_63 : decode cX11_tie 63 = .ok (.invokespecial 127, 3) := by decide +kernel
theorem dX11_tie_66 : decode cX11_tie 66 = .ok (.athrow, 1) := by decide +kernel
theorem dX11_tie_67 : decode cX11_tie 67 = .ok (.aload_n 0, 1) := by decide +kernel
theorem dX11_tie_68 : decode cX11_tie 68 = .ok (.getfield 10, 3) := by decide +kernel
theorem dX11_tie_71 : decode cX11_tie 71 = .ok (.getfield 322, 3) := by decide +kernel
theorem dX11_tie_74 : decode cX11_tie 74 = .ok (.iload_n 2, 1) := by decide +kernel
theorem dX11_tie_75 : decode cX11_tie 75 = .ok (.aload_n 0, 1) := by decide +kernel
theorem dX11_tie_76 : decode cX11_tie 76 = .ok (.getfield 21, 3) := by decide +kernel
theorem dX11_tie_79 : decode cX11_tie 79 = .ok (.getfield 325, 3) := by decide +kernel
theorem dX11_tie_82 : decode cX11_tie 82 = .ok (.iload_n 1, 1) := by decide +kernel
theorem dX11_tie_83 : decode cX11_tie 83 = .ok (.iaload, 1) := by decide +kernel
theorem dX11_tie_84 : decode cX11_tie 84 = .ok (.iastore, 1) := by decide +kernel
theorem dX11_tie_85 : decode cX11_tie 85 = .ok (.aload_n 0, 1) := by decide +kernel
theorem dX11_tie_86 : decode cX11_tie 86 = .ok (.getfield 10, 3) := by decide +kernel
theorem dX11_tie_89 : decode cX11_tie 89 = .ok (.dup, 1) := by decide +kernel
theorem dX11_tie_90 : decode cX11_tie 90 = .ok (.getfield 328, 3) := by decide +kernel
theorem dX11_tie_93 : decode cX11_tie 93 = .ok (.iconst 1, 1) := by decide +kernel
theorem dX11_tie_94 : decode cX11_tie 94 = .ok (.iadd, 1) := by decide +kernel
theorem dX11_tie_95 : decode cX11_tie 95 = .ok (.putfield 328, 3) := by decide +kernel
theorem dX11_tie_98 : decode cX11_tie 98 = .ok (.aload_n 0, 1) := by decide +kernel
theorem dX11_tie_99 : decode cX11_tie 99 = .ok (.getfield 21, 3) := by decide +kernel
theorem dX11_tie_102 : decode cX11_tie 102 = .ok (.invokevirtual 186, 3) := by decide +kernel
theorem dX11_tie_105 : decode cX11_tie 105 = .ok (.aload_n 0, 1) := by decide +kernel
theorem dX11_tie_106 : decode cX11_tie 106 = .ok (.getfield 10, 3) := by decide +kernel
theorem dX11_tie_109 : decode cX11_tie 109 = .ok (.getfield 328, 3) := by decide +kernel
theorem dX11_tie_112 : decode cX11_tie 112 = .ok (.ireturn, 1) := by decide +kernel
theorem dX11_turnAbout_0 : decode cX11_turnAbout 0 = .ok (.aload_n 0, 1) := by decide +kernel
theorem dX11_turnAbout_1 : decode cX11_turnAbout 1 = .ok (.getfield 37, 3) := by decide +kernel
theorem dX11_turnAbout_4 : decode cX11_turnAbout 4 = .ok (.aload_n 0, 1) := by decide +kernel
theorem dX11_turnAbout_5 : decode cX11_turnAbout 5 = .ok (.getfield 28, 3) := by decide +kernel
theorem dX11_turnAbout_8 : decode cX11_turnAbout 8 = .ok (.invokevirtual 276, 3) := by decide +kernel
theorem dX11_turnAbout_11 : decode cX11_turnAbout 11 = .ok (.aload_n 0, 1) := by decide +kernel
theorem dX11_turnAbout_12 : decode cX11_turnAbout 12 = .ok (.getfield 28, 3) := by decide +kernel
theorem dX11_turnAbout_15 : decode cX11_turnAbout 15 = .ok (.aload_n 0, 1) := by decide +kernel
theorem dX11_turnAbout_16 : decode cX11_turnAbout 16 = .ok (.getfield 28, 3) := by decide +kernel
theorem dX11_turnAbout_19 : decode cX11_turnAbout 19 = .ok (.aload_n 0, 1) := by decide +kernel
theorem dX11_turnAbout_20 : decode cX11_turnAbout 20 = .ok (.getfield 37, 3) := by decide +kernel
theorem dX11_turnAbout_23 : decode cX11_turnAbout 23 = .ok (.aload_n 0, 1) := by decide +kernel
theorem dX11_turnAbout_24 : decode cX11_turnAbout 24 = .ok (.getfield 21, 3) := by decide +kernel
theorem dX11_turnAbout_27 : decode cX11_turnAbout 27 = .ok (.invokevirtual 343, 3) := by decide +kernel
theorem dX11_turnAbout_30 : decode cX11_turnAbout 30 = .ok (.invokevirtual 347, 3) := by decide +kernel
theorem dX11_turnAbout_33 : decode cX11_turnAbout 33 = .ok (.aload_n 0, 1) := by decide +kernel
theorem dX11_turnAbout_34 : decode cX11_turnAbout 34 = .ok (.getfield 28, 3) := by decide +kernel
theorem dX11_turnAbout_37 : decode cX11_turnAbout 37 = .ok (.getfield 103, 3) := by decide +kernel
theorem dX11_turnAbout_40 : decode cX11_turnAbout 40 = .ok (.ireturn, 1) := by decide +kernel
theorem dX11_value_0 : decode cX11_value 0 = .ok (.aload_n 0, 1) := by decide +kernel
theorem dX11_value_1 : decode cX11_value 1 = .ok (.iload_n 1, 1) := by decide +kernel
theorem dX11_value_2 : decode cX11_value 2 = .ok (.invokevirtual 200, 3) := by decide +kernel
theorem dX11_value_5 : decode cX11_value 5 = .ok (.aload_n 0, 1) := by decide +kernel
theorem dX11_value_6 : decode cX11_value 6 = .ok (.iload_n 2, 1) := by decide +kernel
theorem dX11_value_7 : decode cX11_value 7 = .ok (.invokevirtual 149, 3) := by decide +kernel
theorem dX11_value_10 : decode cX11_value 10 = .ok (.aload_n 0, 1) := by decide +kernel
theorem dX11_value_11 : decode cX11_value 11 = .ok (.getfield 46, 3) := by decide +kernel
theorem dX11_value_14 : decode cX11_value 14 = .ok (.iload_n 1, 1) := by decide +kernel
theorem dX11_value_15 : decode cX11_value 15 = .ok (.invokevirtual 203, 3) := by decide +kernel
theorem dX11_value_18 : decode cX11_value 18 = .ok (.aload_n 0, 1) := by decide +kernel
theorem dX11_value_19 : decode cX11_value 19 = .ok (.getfield 46, 3) := by decide +kernel
theorem dX11_value_22 : decode cX11_value 22 = .ok (.getfield 206, 3) := by decide +kernel
theorem dX11_value_25 : decode cX11_value 25 = .ok (.iload_n 2, 1) := by decide +kernel
theorem dX11_value_26 : decode cX11_value 26 = .ok (.iaload, 1) := by decide +kernel
theorem dX11_value_27 : decode cX11_value 27 = .ok (.ireturn, 1) := by decide +kernel
theorem dX11_ways_0 : decode cX11_ways 0 = .ok (.aload_n 0, 1) := by decide +kernel
theorem dX11_ways_1 : decode cX11_ways 1 = .ok (.iload_n 1, 1) := by decide +kernel
theorem dX11_ways_2 : decode cX11_ways 2 = .ok (.invokevirtual 319, 3) := by decide +kernel
theorem dX11_ways_5 : decode cX11_ways 5 = .ok (.aload_n 0, 1) := by decide +kernel
theorem dX11_ways_6 : decode cX11_ways 6 = .ok (.getfield 37, 3) := by decide +kernel
theorem dX11_ways_9 : decode cX11_ways 9 = .ok (.iload_n 1, 1) := by decide +kernel
theorem dX11_ways_10 : decode cX11_ways 10 = .ok (.invokevirtual 420, 3) := by decide +kernel
theorem dX11_ways_13 : decode cX11_ways 13 = .ok (.ireturn, 1) := by decide +kernel
theorem dX11_weight_0 : decode cX11_weight 0 = .ok (.aload_n 0, 1) := by decide +kernel
theorem dX11_weight_1 : decode cX11_weight 1 = .ok (.iload_n 1, 1) := by decide +kernel
theorem dX11_weight_2 : decode cX11_weight 2 = .ok (.invokevirtual 149, 3) := by decide +kernel
theorem dX11_weight_5 : decode cX11_weight 5 = .ok (.aload_n 0, 1) := by decide +kernel
theorem dX11_weight_6 : decode cX11_weight 6 = .ok (.invokevirtual 177, 3) := by decide +kernel
theorem dX11_weight_9 : decode cX11_weight 9 = .ok (.aload_n 0, 1) := by decide +kernel
theorem dX11_weight_10 : decode cX11_weight 10 = .ok (.getfield 37, 3) := by decide +kernel
theorem dX11_weight_13 : decode cX11_weight 13 = .ok (.iload_n 1, 1) := by decide +kernel
theorem dX11_weight_14 : decode cX11_weight 14 = .ok (.invokevirtual 417, 3) := by decide +kernel
theorem dX11_weight_17 : decode cX11_weight 17 = .ok (.ireturn, 1) := by decide +kernel
theorem dX11_wrong_0 : decode cX11_wrong 0 = .ok (.aload_n 0, 1) := by decide +kernel
theorem dX11_wrong_1 : decode cX11_wrong 1 = .ok (.iload_n 1, 1) := by decide +kernel
theorem dX11_wrong_2 : decode cX11_wrong 2 = .ok (.invokevirtual 319, 3) := by decide +kernel
theorem dX11_wrong_5 : decode cX11_wrong 5 = .ok (.aload_n 0, 1) := by decide +kernel
theorem dX11_wrong_6 : decode cX11_wrong 6 = .ok (.getfield 71, 3) := by decide +kernel
theorem dX11_wrong_9 : decode cX11_wrong 9 = .ok (.invokevirtual 438, 3) := by decide +kernel
theorem dX11_wrong_12 : decode cX11_wrong 12 = .ok (.aload_n 0, 1) := by decide +kernel
theorem dX11_wrong_13 : decode cX11_wrong 13 = .ok (.getfield 71, 3) := by decide +kernel
theorem dX11_wrong_16 : decode cX11_wrong 16 = .ok (.getfield 444, 3) := by decide +kernel
theorem dX11_wrong_19 : decode cX11_wrong 19 = .ok (.aload_n 0, 1) := by decide +kernel
theorem dX11_wrong_20 : decode cX11_wrong 20 = .ok (.getfield 21, 3) := by decide +kernel
theorem dX11_wrong_23 : decode cX11_wrong 23 = .ok (.getfield 222, 3) := by decide +kernel
theorem dX11_wrong_26 : decode cX11_wrong 26 = .ok (.iload_n 1, 1) := by decide +kernel
theorem dX11_wrong_27 : decode cX11_wrong 27 = .ok (.iaload, 1) := by decide +kernel
theorem dX11_wrong_28 : decode cX11_wrong 28 = .ok (.iaload, 1) := by decide +kernel
theorem dX11_wrong_29 : decode cX11_wrong 29 = .ok (.ireturn, 1) := by decide +kernel
theorem dX1_suspectedPlaces_0 : decode cX1_suspectedPlaces 0 = .ok (.aload_n 0, 1) := by decide +kernel
theorem dX1_suspectedPlaces_1 : decode cX1_suspectedPlaces 1 = .ok (.getfield 31, 3) := by decide +kernel
theorem dX1_suspectedPlaces_4 : decode cX1_suspectedPlaces 4 = .ok (.ifCond .ge 5, 3) := by decide +kernel
theorem dX1_suspectedPlaces_7 : decode cX1_suspectedPlaces 7 = .ok (.iconst 0, 1) := by decide +kernel
theorem dX1_suspectedPlaces_8 : decode cX1_suspectedPlaces 8 = .ok (.ireturn, 1) := by decide +kernel
theorem dX1_suspectedPlaces_9 : decode cX1_suspectedPlaces 9 = .ok (.aload_n 0, 1) := by decide +kernel
theorem dX1_suspectedPlaces_10 : decode cX1_suspectedPlaces 10 = .ok (.aload_n 0, 1) := by decide +kernel
theorem dX1_suspectedPlaces_11 : decode cX1_suspectedPlaces 11 = .ok (.getfield 31, 3) := by decide +kernel
theorem dX1_suspectedPlaces_14 : decode cX1_suspectedPlaces 14 = .ok (.aload_n 0, 1) := by decide +kernel
theorem dX1_suspectedPlaces_15 : decode cX1_suspectedPlaces 15 = .ok (.getfield 134, 3) := by decide +kernel
theorem dX1_suspectedPlaces_18 : decode cX1_suspectedPlaces 18 = .ok (.invokevirtual 137, 3) := by decide +kernel
theorem dX1_suspectedPlaces_21 : decode cX1_suspectedPlaces 21 = .ok (.iconst 0, 1) := by decide +kernel
theorem dX1_suspectedPlaces_22 : decode cX1_suspectedPlaces 22 = .ok (.istore_n 1, 1) := by decide +kernel
theorem dX1_suspectedPlaces_23 : decode cX1_suspectedPlaces 23 = .ok (.iload_n 1, 1) := by decide +kernel
theorem dX1_suspectedPlaces_24 : decode cX1_suspectedPlaces 24 = .ok (.aload_n 0, 1) := by decide +kernel
theorem dX1_suspectedPlaces_25 : decode cX1_suspectedPlaces 25 = .ok (.getfield 35, 3) := by decide +kernel
theorem dX1_suspectedPlaces_28 : decode cX1_suspectedPlaces 28 = .ok (.getfield 108, 3) := by decide +kernel
theorem dX1_suspectedPlaces_31 : decode cX1_suspectedPlaces 31 = .ok (.if_icmp .ge 49, 3) := by decide +kernel
theorem dX1_suspectedPlaces_34 : decode cX1_suspectedPlaces 34 = .ok (.aload_n 0, 1) := by decide +kernel
theorem dX1_suspectedPlaces_35 : decode cX1_suspectedPlaces 35 = .ok (.getfield 25, 3) := by decide +kernel
theorem dX1_suspectedPlaces_38 : decode cX1_suspectedPlaces 38 = .ok (.iload_n 1, 1) := by decide +kernel
theorem dX1_suspectedPlaces_39 : decode cX1_suspectedPlaces 39 = .ok (.aload_n 0, 1) := by decide +kernel
theorem dX1_suspectedPlaces_40 : decode cX1_suspectedPlaces 40 = .ok (.iload_n 1, 1) := by decide +kernel
theorem dX1_suspectedPlaces_41 : decode cX1_suspectedPlaces 41 = .ok (.aload_n 0, 1) := by decide +kernel
theorem dX1_suspectedPlaces_42 : decode cX1_suspectedPlaces 42 = .ok (.getfield 31, 3) := by decide +kernel
theorem dX1_suspectedPlaces_45 : decode cX1_suspectedPlaces 45 = .ok (.aload_n 0, 1) := by decide +kernel
theorem dX1_suspectedPlaces_46 : decode cX1_suspectedPlaces 46 = .ok (.getfield 134, 3) := by decide +kernel
theorem dX1_suspectedPlaces_49 : decode cX1_suspectedPlaces 49 = .ok (.iconst 0, 1) := by decide +kernel
theorem dX1_suspectedPlaces_50 : decode cX1_suspectedPlaces 50 = .ok (.invokevirtual 140, 3) := by decide +kernel
theorem dX1_suspectedPlaces_53 : decode cX1_suspectedPlaces 53 = .ok (.lastore, 1) := by decide +kernel
theorem dX1_suspectedPlaces_54 : decode cX1_suspectedPlaces 54 = .ok (.aload_n 0, 1) := by decide +kernel
theorem dX1_suspectedPlaces_55 : decode cX1_suspectedPlaces 55 = .ok (.getfield 28, 3) := by decide +kernel
theorem dX1_suspectedPlaces_58 : decode cX1_suspectedPlaces 58 = .ok (.iload_n 1, 1) := by decide +kernel
theorem dX1_suspectedPlaces_59 : decode cX1_suspectedPlaces 59 = .ok (.aload_n 0, 1) := by decide +kernel
theorem dX1_suspectedPlaces_60 : decode cX1_suspectedPlaces 60 = .ok (.iload_n 1, 1) := by decide +kernel
theorem dX1_suspectedPlaces_61 : decode cX1_suspectedPlaces 61 = .ok (.aload_n 0, 1) := by decide +kernel
theorem dX1_suspectedPlaces_62 : decode cX1_suspectedPlaces 62 = .ok (.getfield 31, 3) := by decide +kernel
theorem dX1_suspectedPlaces_65 : decode cX1_suspectedPlaces 65 = .ok (.aload_n 0, 1) := by decide +kernel
theorem dX1_suspectedPlaces_66 : decode cX1_suspectedPlaces 66 = .ok (.getfield 134, 3) := by decide +kernel
theorem dX1_suspectedPlaces_69 : decode cX1_suspectedPlaces 69 = .ok (.iconst 1, 1) := by decide +kernel
theorem dX1_suspectedPlaces_70 : decode cX1_suspectedPlaces 70 = .ok (.invokevirtual 140, 3) := by decide +kernel
theorem dX1_suspectedPlaces_73 : decode cX1_suspectedPlaces 73 = .ok (.lastore, 1) := by decide +kernel
theorem dX1_suspectedPlaces_74 : decode cX1_suspectedPlaces 74 = .ok (.iinc 1 1, 3) := by decide +kernel
theorem dX1_suspectedPlaces_77 : decode cX1_suspectedPlaces 77 = .ok (.goto (-54), 3) := by decide +kernel
theorem dX1_suspectedPlaces_80 : decode cX1_suspectedPlaces 80 = .ok (.iconst 0, 1) := by decide +kernel
theorem dX1_suspectedPlaces_81 : decode cX1_suspectedPlaces 81 = .ok (.istore_n 1, 1) := by decide +kernel
theorem dX1_suspectedPlaces_82 : decode cX1_suspectedPlaces 82 = .ok (.iconst 0, 1) := by decide +kernel
theorem dX1_suspectedPlaces_83 : decode cX1_suspectedPlaces 83 = .ok (.istore_n 2, 1) := by decide +kernel
theorem dX1_suspectedPlaces_84 : decode cX1_suspectedPlaces 84 = .ok (.iload_n 2, 1) := by decide +kernel
theorem dX1_suspectedPlaces_85 : decode cX1_suspectedPlaces 85 = .ok (.aload_n 0, 1) := by decide +kernel
theorem dX1_suspectedPlaces_86 : decode cX1_suspectedPlaces 86 = .ok (.getfield 35, 3) := by decide +kernel
theorem dX1_suspectedPlaces_89 : decode cX1_suspectedPlaces 89 = .ok (.getfield 108, 3) := by decide +kernel
theorem dX1_suspectedPlaces_92 : decode cX1_suspectedPlaces 92 = .ok (.if_icmp .ge 23, 3) := by decide +kernel
theorem dX1_suspectedPlaces_95 : decode cX1_suspectedPlaces 95 = .ok (.aload_n 0, 1) := by decide +kernel
theorem dX1_suspectedPlaces_96 : decode cX1_suspectedPlaces 96 = .ok (.iload_n 2, 1) := by decide +kernel
theorem dX1_suspectedPlaces_97 : decode cX1_suspectedPlaces 97 = .ok (.invokevirtual 144, 3) := by decide +kernel
theorem dX1_suspectedPlaces_100 : decode cX1_suspectedPlaces 100 = .ok (.ifCond .eq 9, 3) := by decide +kernel
theorem dX1_suspectedPlaces_103 : decode cX1_suspectedPlaces 103 = .ok (.iload_n 1, 1) := by decide +kernel
theorem dX1_suspectedPlaces_104 : decode cX1_suspectedPlaces 104 = .ok (.iconst 1, 1) := by decide +kernel
theorem dX1_suspectedPlaces_105 : decode cX1_suspectedPlaces 105 = .ok (.iload_n 2, 1) := by decide +kernel
theorem dX1_suspectedPlaces_106 : decode cX1_suspectedPlaces 106 = .ok (.ishl, 1) := by decide +kernel
theorem dX1_suspectedPlaces_107 : decode cX1_suspectedPlaces 107 = .ok (.ior, 1) := by decide +kernel
theorem dX1_suspectedPlaces_108 : decode cX1_suspectedPlaces 108 = .ok (.istore_n 1, 1) := by decide +kernel
theorem dX1_suspectedPlaces_109 : decode cX1_suspectedPlaces 109 = .ok (.iinc 2 1, 3) := by decide +kernel
theorem dX1_suspectedPlaces_112 : decode cX1_suspectedPlaces 112 = .ok (.goto (-28), 3) := by decide +kernel
theorem dX1_suspectedPlaces_115 : decode cX1_suspectedPlaces 115 = .ok (.iload_n 1, 1) := by decide +kernel
theorem dX1_suspectedPlaces_116 : decode cX1_suspectedPlaces 116 = .ok (.ireturn, 1) := by decide +kernel
theorem dX7_keep_0 : decode cX7_keep 0 = .ok (.iconst 0, 1) := by decide +kernel
theorem dX7_keep_1 : decode cX7_keep 1 = .ok (.istore_n 3, 1) := by decide +kernel
theorem dX7_keep_2 : decode cX7_keep 2 = .ok (.iconst 0, 1) := by decide +kernel
theorem dX7_keep_3 : decode cX7_keep 3 = .ok (.istore 4, 2) := by decide +kernel
theorem dX7_keep_5 : decode cX7_keep 5 = .ok (.iload 4, 2) := by decide +kernel
theorem dX7_keep_7 : decode cX7_keep 7 = .ok (.aload_n 0, 1) := by decide +kernel
theorem dX7_keep_8 : decode cX7_keep 8 = .ok (.getfield 27, 3) := by decide +kernel
theorem dX7_keep_11 : decode cX7_keep 11 = .ok (.if_icmp .ge 30, 3) := by decide +kernel
theorem dX7_keep_14 : decode cX7_keep 14 = .ok (.lload_n 1, 1) := by decide +kernel
theorem dX7_keep_15 : decode cX7_keep 15 = .ok (.iload 4, 2) := by decide +kernel
theorem dX7_keep_17 : decode cX7_keep 17 = .ok (.lshr, 1) := by decide +kernel
theorem dX7_keep_18 : decode cX7_keep 18 = .ok (.lconst 1, 1) := by decide +kernel
theorem dX7_keep_19 : decode cX7_keep 19 = .ok (.land, 1) := by decide +kernel
theorem dX7_keep_20 : decode cX7_keep 20 = .ok (.lconst 0, 1) := by decide +kernel
theorem dX7_keep_21 : decode cX7_keep 21 = .ok (.lcmp, 1) := by decide +kernel
theorem dX7_keep_22 : decode cX7_keep 22 = .ok (.ifCond .eq 13, 3) := by decide +kernel
theorem dX7_keep_25 : decode cX7_keep 25 = .ok (.aload_n 0, 1) := by decide +kernel
theorem dX7_keep_26 : decode cX7_keep 26 = .ok (.iload 4, 2) := by decide +kernel
theorem dX7_keep_28 : decode cX7_keep 28 = .ok (.iload_n 3, 1) := by decide +kernel
theorem dX7_keep_29 : decode cX7_keep 29 = .ok (.invokevirtual 31, 3) := by decide +kernel
theorem dX7_keep_32 : decode cX7_keep 32 = .ok (.iinc 3 1, 3) := by decide +kernel
theorem dX7_keep_35 : decode cX7_keep 35 = .ok (.iinc 4 1, 3) := by decide +kernel
theorem dX7_keep_38 : decode cX7_keep 38 = .ok (.goto (-33), 3) := by decide +kernel
theorem dX7_keep_41 : decode cX7_keep 41 = .ok (.aload_n 0, 1) := by decide +kernel
theorem dX7_keep_42 : decode cX7_keep 42 = .ok (.iload_n 3, 1) := by decide +kernel
theorem dX7_keep_43 : decode cX7_keep 43 = .ok (.putfield 27, 3) := by decide +kernel
theorem dX7_keep_46 : decode cX7_keep 46 = .ok (.return_, 1) := by decide +kernel
theorem dX7_neededFromLast_0 : decode cX7_neededFromLast 0 = .ok (.lconst 0, 1) := by decide +kernel
theorem dX7_neededFromLast_1 : decode cX7_neededFromLast 1 = .ok (.lstore_n 3, 1) := by decide +kernel
theorem dX7_neededFromLast_2 : decode cX7_neededFromLast 2 = .ok (.aload_n 0, 1) := by decide +kernel
theorem dX7_neededFromLast_3 : decode cX7_neededFromLast 3 = .ok (.getfield 27, 3) := by decide +kernel
theorem dX7_neededFromLast_6 : decode cX7_neededFromLast 6 = .ok (.iconst 1, 1) := by decide +kernel
theorem dX7_neededFromLast_7 : decode cX7_neededFromLast 7 = .ok (.isub, 1) := by decide +kernel
theorem dX7_neededFromLast_8 : decode cX7_neededFromLast 8 = .ok (.istore 5, 2) := by decide +kernel
theorem dX7_neededFromLast_10 : decode cX7_neededFromLast 10 = .ok (.iload 5, 2) := by decide +kernel
theorem dX7_neededFromLast_12 : decode cX7_neededFromLast 12 = .ok (.ifCond .lt 29, 3) := by decide +kernel
theorem dX7_neededFromLast_15 : decode cX7_neededFromLast 15 = .ok (.aload_n 0, 1) := by decide +kernel
theorem dX7_neededFromLast_16 : decode cX7_neededFromLast 16 = .ok (.iload 5, 2) := by decide +kernel
theorem dX7_neededFromLast_18 : decode cX7_neededFromLast 18 = .ok (.lload_n 3, 1) := by decide +kernel
theorem dX7_neededFromLast_19 : decode cX7_neededFromLast 19 = .ok (.aload_n 1, 1) := by decide +kernel
theorem dX7_neededFromLast_20 : decode cX7_neededFromLast 20 = .ok (.aload_n 2, 1) := by decide +kernel
theorem dX7_neededFromLast_21 : decode cX7_neededFromLast 21 = .ok (.iconst 0, 1) := by decide +kernel
theorem dX7_neededFromLast_22 : decode cX7_neededFromLast 22 = .ok (.invokevirtual 46, 3) := by decide +kernel
theorem dX7_neededFromLast_25 : decode cX7_neededFromLast 25 = .ok (.ifCond .le 10, 3) := by decide +kernel
theorem dX7_neededFromLast_28 : decode cX7_neededFromLast 28 = .ok (.lload_n 3, 1) := by decide +kernel
theorem dX7_neededFromLast_29 : decode cX7_neededFromLast 29 = .ok (.lconst 1, 1) := by decide +kernel
theorem dX7_neededFromLast_30 : decode cX7_neededFromLast 30 = .ok (.iload 5, 2) := by decide +kernel
theorem dX7_neededFromLast_32 : decode cX7_neededFromLast 32 = .ok (.lshl, 1) := by decide +kernel
theorem dX7_neededFromLast_33 : decode cX7_neededFromLast 33 = .ok (.lor, 1) := by decide +kernel
theorem dX7_neededFromLast_34 : decode cX7_neededFromLast 34 = .ok (.lstore_n 3, 1) := by decide +kernel
theorem dX7_neededFromLast_35 : decode cX7_neededFromLast 35 = .ok (.iinc 5 (-1), 3) := by decide +kernel
theorem dX7_neededFromLast_38 : decode cX7_neededFromLast 38 = .ok (.goto (-28), 3) := by decide +kernel
theorem dX7_neededFromLast_41 : decode cX7_neededFromLast 41 = .ok (.lload_n 3, 1) := by decide +kernel
theorem dX7_neededFromLast_42 : decode cX7_neededFromLast 42 = .ok (.lreturn, 1) := by decide +kernel
set_option maxHeartbeats 4000000 in
set_option maxRecDepth 100000 in
theorem k_X11_shortWires (l : Launch) (hfl : l.stackTraces = false) (D : va_G) (g : Nat → ClassId) (z0 sz : Nat) (a : Nat → Nat) (p0 : Int32) (p1 : Int32) : vx_Met l yX11_shortWires (.code yX11_shortWires cX11_shortWires 3 (some .int) :: TG) (rmk 7 1 6 102) (va_Pc [.ref (a 0), .int p0, .int p1] (PP D g z0 sz [((a 0), f_x a), ((a 10), f_wires a)])) (va_Qi (fun (r : Int32) (u : Unit) => False) (fun (_ : Unit) (_ : State) => True) (va_A [] sz)) (vx_X (fun _ : Unit => True) (fun E _ _ => (E = "java/lang/IndexOutOfBoundsException" ∧ True)) (va_A [] sz)) 1 6 (va_A [] sz) := by
  refine vxm0 (cc := cX11_shortWires) (n := 3) (by decide) (Nat.le_of_ble_eq_true rfl) ?_
  intro p e s m args below meth c hx hb hr hml htab hown ht hlocks hnm hP0 hD0 hK hZ hsz hz ls hl
  subst hsz
  have hA : ∀ q : Nat, s.heap.size ≤ q → va_A [] s.heap.size q := Anw
  have hAz : ∀ q, va_A [] s.heap.size q → z0 ≤ q := A0z hz
  have hS : va_S (va_A [] s.heap.size) s.heap s.heap [] := va_S.rf
  have hl : lv_has ls 3 [(0, .ref (a 0)), (1, .int p0), (2, .int p1)] := hl
  refine lv_aload_n hx hb dX11_shortWires_0 rfl (lv_at hl 0 rfl) ?_
  refine lv_iload_n hx hb dX11_shortWires_1 rfl (lv_at hl 1 rfl) ?_
  have hPc : va_P D vwCl [((a 0), f_x a), ((a 10), f_wires a)] _ := (ro0 hP0 hS).sub (ws' := [((a 0), f_x a), ((a 10), f_wires a)]) [0, 1] rfl
  have hDc : va_D (fun q => z0 ≤ q) [((a 0), f_x a), ((a 10), f_wires a)] := hD0.pick (ws' := [((a 0), f_x a), ((a 10), f_wires a)]) [0, 1] (by decide) rfl
  have hFc := AnA (ws := []) hS.1
  refine vx_callv (vx_runV (As := [.int p0]) (rest := []) ⟨hx, hb, hml, hown, ht⟩ (k_X11_needWire l hfl D g z0 _ a p0) (cwV 1 ht (gV w_190 w_192 w_193 w_31 w_191) rfl rfl rfl (by decide +kernel) (le2 rfl rfl)) ⟨PP.blind, va_recv hK.1 (ro0 hP0 hS) (ci := 17) (q0 := 0) rfl rfl, PP.mk' hK hZ hz hAz hS hPc hDc⟩ rfl rfl hl.1 rfl (lv_room (Nat.le_of_ble_eq_true rfl)) dX11_shortWires_2 (le2 rfl rfl)) hS (fun q _ h => hFc q h) hFc (fun q _ h => hFc q h) (fun E ce q9 u t H locs ht1 hvm hw hB hz1 hk1 hS hcell hv9 hcl => ?_) (fun u t H locs ht1 hvm hw hB hz1 hk1 hS => ?_)
  · obtain ⟨rfl, hB⟩ := hB
    exact out0 htab hlocks hS hcell hv9 hcl (fun t _ hF => ⟨(), trivial, ⟨rfl, trivial⟩, hF⟩) (fun _ h => h) rfl rfl
  · exact hw.elim
set_option maxHeartbeats 4000000 in
set_option maxRecDepth 100000 in
theorem k_X11_signature (l : Launch) (hfl : l.stackTraces = false) (D : va_G) (g : Nat → ClassId) (z0 sz : Nat) (a : Nat → Nat) (p0 : Int32) : vx_Met l yX11_signature (.code yX11_signature cX11_signature 2 (some .int) :: TG) (rmk 8 1 6 123) (va_Pc [.ref (a 0), .int p0] (PP D g z0 sz [((a 0), f_x a), ((a 3), f_rows a), ((a 4), f_words a), ((a 38), .inl (g 1, 12, .inr (.inl (fun _ => 0)))), ((a 39), .inl (g 1, 12, .inr (.inl (fun _ => 0)))), ((a 1), f_net a), ((a 2), f_book a)])) (va_Qi (fun (r : Int32) (u : Unit) => (r = 0) ∧ (p0 = (-1))) (fun (u : Unit) (t : State) => va_P D vwCl [] t.heap ∧ va_D (va_A [((a 0), f_x a), ((a 3), f_rows a), ((a 4), f_words a), ((a 38), .inl (g 1, 12, .inr (.inl (fun _ => 0)))), ((a 39), .inl (g 1, 12, .inr (.inl (fun _ => 0)))), ((a 1), f_net a), ((a 2), f_book a)] sz) []) (va_A [((a 0), f_x a), ((a 3), f_rows a), ((a 4), f_words a), ((a 38), .inl (g 1, 12, .inr (.inl (fun _ => 0)))), ((a 39), .inl (g 1, 12, .inr (.inl (fun _ => 0)))), ((a 1), f_net a), ((a 2), f_book a)] sz)) (vx_X (fun _ : Unit => True) (fun E _ _ => (E = "java/lang/IndexOutOfBoundsException" ∧ (¬ p0 = (-1)))) (va_A [((a 0), f_x a), ((a 3), f_rows a), ((a 4), f_words a), ((a 38), .inl (g 1, 12, .inr (.inl (fun _ => 0)))), ((a 39), .inl (g 1, 12, .inr (.inl (fun _ => 0)))), ((a 1), f_net a), ((a 2), f_book a)] sz)) 1 6 (va_A [((a 0), f_x a), ((a 3), f_rows a), ((a 4), f_words a), ((a 38), .inl (g 1, 12, .inr (.inl (fun _ => 0)))), ((a 39), .inl (g 1, 12, .inr (.inl (fun _ => 0)))), ((a 1), f_net a), ((a 2), f_book a)] sz) := by
  refine vxm0 (cc := cX11_signature) (n := 2) (by decide) (Nat.le_of_ble_eq_true rfl) ?_
  intro p e s m args below meth c hx hb hr hml htab hown ht hlocks hnm hP0 hD0 hK hZ hsz hz ls hl
  subst hsz
  have hA : ∀ q : Nat, s.heap.size ≤ q → va_A [((a 0), f_x a), ((a 3), f_rows a), ((a 4), f_words a), ((a 38), .inl (g 1, 12, .inr (.inl (fun _ => 0)))), ((a 39), .inl (g 1, 12, .inr (.inl (fun _ => 0)))), ((a 1), f_net a), ((a 2), f_book a)] s.heap.size q := Anw
  have hAz : ∀ q, va_A [((a 0), f_x a), ((a 3), f_rows a), ((a 4), f_words a), ((a 38), .inl (g 1, 12, .inr (.inl (fun _ => 0)))), ((a 39), .inl (g 1, 12, .inr (.inl (fun _ => 0)))), ((a 1), f_net a), ((a 2), f_book a)] s.heap.size q → z0 ≤ q := Awz hz hD0
  have hS : va_S (va_A [((a 0), f_x a), ((a 3), f_rows a), ((a 4), f_words a), ((a 38), .inl (g 1, 12, .inr (.inl (fun _ => 0)))), ((a 39), .inl (g 1, 12, .inr (.inl (fun _ => 0)))), ((a 1), f_net a), ((a 2), f_book a)] s.heap.size) s.heap s.heap [] := va_S.rf
  have hD : va_D (va_A [((a 0), f_x a), ((a 3), f_rows a), ((a 4), f_words a), ((a 38), .inl (g 1, 12, .inr (.inl (fun _ => 0)))), ((a 39), .inl (g 1, 12, .inr (.inl (fun _ => 0)))), ((a 1), f_net a), ((a 2), f_book a)] s.heap.size) [((a 0), f_x a), ((a 3), f_rows a), ((a 4), f_words a), ((a 38), .inl (g 1, 12, .inr (.inl (fun _ => 0)))), ((a 39), .inl (g 1, 12, .inr (.inl (fun _ => 0)))), ((a 1), f_net a), ((a 2), f_book a)] := hD0.self
  have hP : va_P D vwCl [((a 0), f_x a), ((a 3), f_rows a), ((a 4), f_words a), ((a 38), .inl (g 1, 12, .inr (.inl (fun _ => 0)))), ((a 39), .inl (g 1, 12, .inr (.inl (fun _ => 0)))), ((a 1), f_net a), ((a 2), f_book a)] s.heap := hP0
  have hl : lv_has ls 2 [(0, .ref (a 0)), (1, .int p0)] := hl
  refine lv_aload_n hx hb dX11_signature_0 rfl (lv_at hl 0 rfl) ?_
  refine va_get (D := D) (ci := 17) (v := .ref (a 4)) (C := RX11) (T := TX11) (N := 11) hx hb ht in_X11 hown hK.1 hP 0 rfl rfl 3 (by decide) (ht _ w_0) (fun _ h9 => h9) rfl dX11_signature_1 ?_
  refine lv_aload_n hx hb dX11_signature_4 rfl (lv_at hl 0 rfl) ?_
  refine va_get (D := D) (ci := 17) (v := .ref (a 3)) (C := RX11) (T := TX11) (N := 11) hx hb ht in_X11 hown hK.1 hP 0 rfl rfl 2 (by decide) (ht _ w_1) (fun _ h9 => h9) rfl dX11_signature_5 ?_
  have hPc : va_P D vwCl [((a 3), f_rows a), ((a 4), f_words a), ((a 38), .inl (g 1, 12, .inr (.inl (fun _ => 0)))), ((a 39), .inl (g 1, 12, .inr (.inl (fun _ => 0))))] _ := hP.sub (ws' := [((a 3), f_rows a), ((a 4), f_words a), ((a 38), .inl (g 1, 12, .inr (.inl (fun _ => 0)))), ((a 39), .inl (g 1, 12, .inr (.inl (fun _ => 0))))]) [1, 2, 3, 4] rfl
  have hDc : va_D (fun q => z0 ≤ q) [((a 3), f_rows a), ((a 4), f_words a), ((a 38), .inl (g 1, 12, .inr (.inl (fun _ => 0)))), ((a 39), .inl (g 1, 12, .inr (.inl (fun _ => 0))))] := (hD.to hAz).pick (ws' := [((a 3), f_rows a), ((a 4), f_words a), ((a 38), .inl (g 1, 12, .inr (.inl (fun _ => 0)))), ((a 39), .inl (g 1, 12, .inr (.inl (fun _ => 0))))]) [1, 2, 3, 4] (by decide) rfl
  have hFc := va_free (wc := [((a 3), f_rows a), ((a 4), f_words a), ((a 38), .inl (g 1, 12, .inr (.inl (fun _ => 0)))), ((a 39), .inl (g 1, 12, .inr (.inl (fun _ => 0))))]) hD hS hA [1, 2, 3, 4] rfl
  refine va_callv (va_runV (As := [.ref (a 3)]) (rest := []) ⟨hx, hb, hml, hown, ht⟩ (k_X10_loadRows l D g z0 _ a) (cwV 1 ht (gV w_15 w_17 w_18 w_14 w_16) rfl rfl rfl (by decide +kernel) (le2 rfl rfl)) ⟨PP.blind, va_recv hK.1 hP (ci := 16) (q0 := 2) rfl rfl, PP.mk' hK hZ hz hAz hS hPc hDc⟩ rfl rfl hl.1 rfl (lv_room (Nat.le_of_ble_eq_true rfl)) dX11_signature_8 (le2 rfl rfl)) hS (fun q _ h => hFc q h) hFc (fun u t H locs ht1 hvm hw hB hz1 hk1 hS => ?_)
  obtain ⟨hP1, hD1⟩ := hB
  rw [ht1] at hP1
  obtain ⟨hP, hD⟩ := va_join (wr := [((a 0), f_x a), ((a 1), f_net a), ((a 2), f_book a)]) (w1 := [((a 3), f_rows a), ((a 4), f_words a), ((a 38), .inl (g 1, 12, .inr (.inl (fun _ => 0)))), ((a 39), .inl (g 1, 12, .inr (.inl (fun _ => 0))))]) hP hD [1, 2, 3, 4] [0, 5, 6] rfl rfl (by decide) (by decide) hk1 hFc hP1 hD1
  have hP : va_P D vwCl [((a 0), f_x a), ((a 1), f_net a), ((a 2), f_book a), ((a 3), f_rows a), ((a 4), f_words a), ((a 38), .inl (g 1, 12, .inr (.inl (fun _ => 0)))), ((a 39), .inl (g 1, 12, .inr (.inl (fun _ => 0))))] H := hP
  have hD : va_D (va_A [((a 0), f_x a), ((a 3), f_rows a), ((a 4), f_words a), ((a 38), .inl (g 1, 12, .inr (.inl (fun _ => 0)))), ((a 39), .inl (g 1, 12, .inr (.inl (fun _ => 0)))), ((a 1), f_net a), ((a 2), f_book a)] s.heap.size) [((a 0), f_x a), ((a 1), f_net a), ((a 2), f_book a), ((a 3), f_rows a), ((a 4), f_words a), ((a 38), .inl (g 1, 12, .inr (.inl (fun _ => 0)))), ((a 39), .inl (g 1, 12, .inr (.inl (fun _ => 0))))] := hD
  refine lv_aload_n hx hb dX11_signature_11 rfl (lv_at hl 0 rfl) ?_
  refine va_get (D := D) (ci := 17) (v := .ref (a 4)) (C := RX11) (T := TX11) (N := 11) hx hb ht in_X11 hown hK.1 hP 0 rfl rfl 3 (by decide) (ht _ w_0) (fun _ h9 => h9) rfl dX11_signature_12 ?_
  have hPc : va_P D vwCl [((a 4), f_words a), ((a 1), f_net a)] _ := hP.sub (ws' := [((a 4), f_words a), ((a 1), f_net a)]) [4, 1] rfl
  have hDc : va_D (fun q => z0 ≤ q) [((a 4), f_words a), ((a 1), f_net a)] := (hD.to hAz).pick (ws' := [((a 4), f_words a), ((a 1), f_net a)]) [4, 1] (by decide) rfl
  have hFc := va_free (wc := [((a 4), f_words a), ((a 1), f_net a)]) hD hS hA [4, 1] rfl
  refine va_callv (va_runV (As := []) (rest := []) ⟨hx, hb, hml, hown, ht⟩ (k_X10_runGood l D g z0 _ a) (cwV 0 ht (gV w_22 w_24 w_25 w_14 w_23) rfl rfl rfl (by decide +kernel) (le2 rfl rfl)) ⟨PP.blind, va_recv hK.1 hP (ci := 16) (q0 := 4) rfl rfl, PP.mk' hK hZ hz hAz hS hPc hDc⟩ rfl rfl hl.1 rfl (lv_room (Nat.le_of_ble_eq_true rfl)) dX11_signature_15 (le2 rfl rfl)) hS (fun q _ h => hFc q h) hFc (fun u t H locs ht1 hvm hw hB hz1 hk1 hS => ?_)
  obtain ⟨hP1, hD1⟩ := hB
  rw [ht1] at hP1
  obtain ⟨hP, hD⟩ := va_join (wr := [((a 0), f_x a), ((a 2), f_book a), ((a 3), f_rows a), ((a 38), .inl (g 1, 12, .inr (.inl (fun _ => 0)))), ((a 39), .inl (g 1, 12, .inr (.inl (fun _ => 0))))]) (w1 := [((a 4), f_words a), ((a 1), f_net a)]) hP hD [4, 1] [0, 2, 3, 5, 6] rfl rfl (by decide) (by decide) hk1 hFc hP1 hD1
  have hP : va_P D vwCl [((a 0), f_x a), ((a 2), f_book a), ((a 3), f_rows a), ((a 38), .inl (g 1, 12, .inr (.inl (fun _ => 0)))), ((a 39), .inl (g 1, 12, .inr (.inl (fun _ => 0)))), ((a 4), f_words a), ((a 1), f_net a)] H := hP
  have hD : va_D (va_A [((a 0), f_x a), ((a 3), f_rows a), ((a 4), f_words a), ((a 38), .inl (g 1, 12, .inr (.inl (fun _ => 0)))), ((a 39), .inl (g 1, 12, .inr (.inl (fun _ => 0)))), ((a 1), f_net a), ((a 2), f_book a)] s.heap.size) [((a 0), f_x a), ((a 2), f_book a), ((a 3), f_rows a), ((a 38), .inl (g 1, 12, .inr (.inl (fun _ => 0)))), ((a 39), .inl (g 1, 12, .inr (.inl (fun _ => 0)))), ((a 4), f_words a), ((a 1), f_net a)] := hD
  refine lv_iload_n hx hb dX11_signature_18 rfl (lv_at hl 1 rfl) ?_
  refine lv_iconst (v := (-1)) hx hb dX11_signature_19 (by decide) ?_
  refine lv_icmp_eq (tgt := 37) hx hb dX11_signature_20 (by decide) (fun c_1 => ?_) (fun c_1 => ?_)
  · refine lv_aload_n hx hb dX11_signature_37 rfl (lv_at hl 0 rfl) ?_
    have hPc : va_P D vwCl [((a 0), f_x a), ((a 3), f_rows a)] _ := hP.sub (ws' := [((a 0), f_x a), ((a 3), f_rows a)]) [0, 2] rfl
    have hDc : va_D (fun q => z0 ≤ q) [((a 0), f_x a), ((a 3), f_rows a)] := (hD.to hAz).pick (ws' := [((a 0), f_x a), ((a 3), f_rows a)]) [0, 2] (by decide) rfl
    have hFc := AnA (ws := [((a 0), f_x a), ((a 3), f_rows a), ((a 4), f_words a), ((a 38), .inl (g 1, 12, .inr (.inl (fun _ => 0)))), ((a 39), .inl (g 1, 12, .inr (.inl (fun _ => 0)))), ((a 1), f_net a), ((a 2), f_book a)]) hS.1
    refine va_calli (va_runV (As := []) (rest := []) ⟨hx, hb, hml, hown, ht⟩ (k_X11_foldObserved l D g z0 _ a) (cwV 0 ht (gV w_27 w_29 w_30 w_31 w_28) rfl rfl rfl (by decide +kernel) (le2 rfl rfl)) ⟨PP.blind, va_recv hK.1 hP (ci := 17) (q0 := 0) rfl rfl, PP.mk' hK hZ hz hAz hS hPc hDc⟩ rfl rfl hl.1 rfl (lv_room (Nat.le_of_ble_eq_true rfl)) dX11_signature_38 (le2 rfl rfl)) hS (fun q _ h => hFc q h) hFc (fun r u t H locs ht1 hvm hw hB hz1 hk1 hS => ?_)
    obtain ⟨rfl, hw⟩ := hw
    have hP := ro1 hP hk1
    have hP9 := hP.sub (ws' := []) [] rfl
    have hD9 := hD.sub (ws' := []) [] (by decide) rfl
    refine vx_ret (W.widen (k := 1) (n := 6) (Nat.le_of_ble_eq_true rfl) (Nat.le_of_ble_eq_true rfl) ?_)
    exact W.iret (v := 0) hx hb hr (fun t ht9 hW9 => ⟨⟨0, (), rfl, ⟨rfl, c_1⟩, ⟨(by rw [ht9]; exact hP9), hD9⟩⟩, hS.F ht9⟩) hS.2.2 dX11_signature_41 hlocks
  · refine lv_aload_n hx hb dX11_signature_23 rfl (lv_at hl 0 rfl) ?_
    refine lv_iload_n hx hb dX11_signature_24 rfl (lv_at hl 1 rfl) ?_
    have hPc : va_P D vwCl [((a 0), f_x a), ((a 2), f_book a)] _ := hP.sub (ws' := [((a 0), f_x a), ((a 2), f_book a)]) [0, 1] rfl
    have hDc : va_D (fun q => z0 ≤ q) [((a 0), f_x a), ((a 2), f_book a)] := (hD.to hAz).pick (ws' := [((a 0), f_x a), ((a 2), f_book a)]) [0, 1] (by decide) rfl
    have hFc := AnA (ws := [((a 0), f_x a), ((a 3), f_rows a), ((a 4), f_words a), ((a 38), .inl (g 1, 12, .inr (.inl (fun _ => 0)))), ((a 39), .inl (g 1, 12, .inr (.inl (fun _ => 0)))), ((a 1), f_net a), ((a 2), f_book a)]) hS.1
    refine vx_callv (vx_runV (As := [.int p0]) (rest := []) ⟨hx, hb, hml, hown, ht⟩ (k_X11_needStuck l hfl D g z0 _ a p0) (cwV 1 ht (gV w_75 w_77 w_78 w_31 w_76) rfl rfl rfl (by decide +kernel) (le2 rfl rfl)) ⟨PP.blind, va_recv hK.1 hP (ci := 17) (q0 := 0) rfl rfl, PP.mk' hK hZ hz hAz hS hPc hDc⟩ rfl rfl hl.1 rfl (lv_room (Nat.le_of_ble_eq_true rfl)) dX11_signature_25 (le2 rfl rfl)) hS (fun q _ h => hFc q h) hFc (fun q _ h => hFc q h) (fun E ce q9 u t H locs ht1 hvm hw hB hz1 hk1 hS hcell hv9 hcl => ?_) (fun u t H locs ht1 hvm hw hB hz1 hk1 hS => ?_)
    · obtain ⟨rfl, hB⟩ := hB
      exact out0 htab hlocks hS hcell hv9 hcl (fun t _ hF => ⟨(), trivial, ⟨rfl, c_1⟩, hF⟩) (fun _ h => h) rfl rfl
    · exact hw.elim
set_option maxHeartbeats 4000000 in
set_option maxRecDepth 100000 in
theorem k_X11_slow (l : Launch) (hfl : l.stackTraces = false) (D : va_G) (g : Nat → ClassId) (z0 sz : Nat) (a : Nat → Nat) (p0 : Int32) (p1 : Int32) : vx_Met l yX11_slow (.code yX11_slow cX11_slow 3 (some .int) :: TG) (rmk 7 1 6 102) (va_Pc [.ref (a 0), .int p0, .int p1] (PP D g z0 sz [((a 0), f_x a), ((a 1), f_net a)])) (va_Qi (fun (r : Int32) (u : Unit) => False) (fun (_ : Unit) (_ : State) => True) (va_A [] sz)) (vx_X (fun _ : Unit => True) (fun E _ _ => (E = "java/lang/IndexOutOfBoundsException" ∧ True)) (va_A [] sz)) 1 6 (va_A [] sz) := by
  refine vxm0 (cc := cX11_slow) (n := 3) (by decide) (Nat.le_of_ble_eq_true rfl) ?_
  intro p e s m args below meth c hx hb hr hml htab hown ht hlocks hnm hP0 hD0 hK hZ hsz hz ls hl
  subst hsz
  have hA : ∀ q : Nat, s.heap.size ≤ q → va_A [] s.heap.size q := Anw
  have hAz : ∀ q, va_A [] s.heap.size q → z0 ≤ q := A0z hz
  have hS : va_S (va_A [] s.heap.size) s.heap s.heap [] := va_S.rf
  have hl : lv_has ls 3 [(0, .ref (a 0)), (1, .int p0), (2, .int p1)] := hl
  refine lv_aload_n hx hb dX11_slow_0 rfl (lv_at hl 0 rfl) ?_
  refine lv_iload_n hx hb dX11_slow_1 rfl (lv_at hl 1 rfl) ?_
  have hPc : va_P D vwCl [((a 0), f_x a), ((a 1), f_net a)] _ := (ro0 hP0 hS).sub (ws' := [((a 0), f_x a), ((a 1), f_net a)]) [0, 1] rfl
  have hDc : va_D (fun q => z0 ≤ q) [((a 0), f_x a), ((a 1), f_net a)] := hD0.pick (ws' := [((a 0), f_x a), ((a 1), f_net a)]) [0, 1] (by decide) rfl
  have hFc := AnA (ws := []) hS.1
  refine vx_callv (vx_runV (As := [.int p0]) (rest := []) ⟨hx, hb, hml, hown, ht⟩ (k_X11_needLine l hfl D g z0 _ a p0) (cwV 1 ht (gV w_80 w_82 w_83 w_31 w_81) rfl rfl rfl (by decide +kernel) (le2 rfl rfl)) ⟨PP.blind, va_recv hK.1 (ro0 hP0 hS) (ci := 17) (q0 := 0) rfl rfl, PP.mk' hK hZ hz hAz hS hPc hDc⟩ rfl rfl hl.1 rfl (lv_room (Nat.le_of_ble_eq_true rfl)) dX11_slow_2 (le2 rfl rfl)) hS (fun q _ h => hFc q h) hFc (fun q _ h => hFc q h) (fun E ce q9 u t H locs ht1 hvm hw hB hz1 hk1 hS hcell hv9 hcl => ?_) (fun u t H locs ht1 hvm hw hB hz1 hk1 hS => ?_)
  · obtain ⟨rfl, hB⟩ := hB
    exact out0 htab hlocks hS hcell hv9 hcl (fun t _ hF => ⟨(), trivial, ⟨rfl, trivial⟩, hF⟩) (fun _ h => h) rfl rfl
  · exact hw.elim
set_option maxHeartbeats 4000000 in
set_option maxRecDepth 100000 in
theorem k_X1_suspectedPlaces (l : Launch) (D : va_G) (g : Nat → ClassId) (z0 sz : Nat) (a : Nat → Nat) : Met l yX1_suspectedPlaces (.code yX1_suspectedPlaces cX1_suspectedPlaces 3 (some .int) :: TG) (rmk 0 0 0 0) (va_Pc [.ref (a 8)] (PP D g z0 sz [((a 8), f_chip a)])) (va_Qi (fun (r : Int32) (u : Unit) => (r = 0) ∧ True) (fun (_ : Unit) (_ : State) => True) (va_A [] sz)) 0 0 (va_A [] sz) := by
  refine met0 (cc := cX1_suspectedPlaces) (n := 3) (by decide) (Nat.le_of_ble_eq_true rfl) ?_
  intro p e s m args below meth c hx hb hr hml hown ht hlocks hnm hP0 hD0 hK hZ hsz hz ls hl
  subst hsz
  have hA : ∀ q : Nat, s.heap.size ≤ q → va_A [] s.heap.size q := Anw
  have hAz : ∀ q, va_A [] s.heap.size q → z0 ≤ q := A0z hz
  have hS : va_S (va_A [] s.heap.size) s.heap s.heap [] := va_S.rf
  have hl : lv_has ls 3 [(0, .ref (a 8))] := hl
  refine lv_aload_n hx hb dX1_suspectedPlaces_0 rfl (lv_at hl 0 rfl) ?_
  refine va_get (D := D) (ci := 7) (v := .int (-1)) (C := RX1) (T := TX1) (N := 13) hx hb ht in_X1 hown hK.1 (ro0 hP0 hS) 0 rfl rfl 11 (by decide) (ht _ w_290) (fun _ h9 => h9) rfl dX1_suspectedPlaces_1 ?_
  refine lv_if_ge (tgt := 9) hx hb dX1_suspectedPlaces_4 (by decide) (fun c_1 => ?_) (fun c_1 => ?_)
  · exact absurd c_1 (by decide)
  · refine lv_iconst (v := 0) hx hb dX1_suspectedPlaces_7 (by decide) ?_
    refine W.widen (k := 0) (n := 0) (Nat.le_of_ble_eq_true rfl) (Nat.le_of_ble_eq_true rfl) ?_
    exact W.iret (v := 0) hx hb hr (fun t ht9 hW9 => ⟨⟨0, (), rfl, ⟨rfl, trivial⟩, trivial⟩, hS.F ht9⟩) hS.2.2 dX1_suspectedPlaces_8 hlocks
set_option maxHeartbeats 4000000 in
set_option maxRecDepth 100000 in
theorem k_X11_suspects (l : Launch) (D : va_G) (g : Nat → ClassId) (z0 sz : Nat) (a : Nat → Nat) : Met l yX11_suspects (.code yX11_suspects cX11_suspects 1 (some .int) :: TG) (rmk 1 0 0 22) (va_Pc [.ref (a 0)] (PP D g z0 sz [((a 0), f_x a), ((a 8), f_chip a)])) (va_Qi (fun (r : Int32) (u : Unit) => (r = 0) ∧ True) (fun (_ : Unit) (_ : State) => True) (va_A [] sz)) 0 0 (va_A [] sz) := by
  refine met0 (cc := cX11_suspects) (n := 1) (by decide) (Nat.le_of_ble_eq_true rfl) ?_
  intro p e s m args below meth c hx hb hr hml hown ht hlocks hnm hP0 hD0 hK hZ hsz hz ls hl
  subst hsz
  have hA : ∀ q : Nat, s.heap.size ≤ q → va_A [] s.heap.size q := Anw
  have hAz : ∀ q, va_A [] s.heap.size q → z0 ≤ q := A0z hz
  have hS : va_S (va_A [] s.heap.size) s.heap s.heap [] := va_S.rf
  have hl : lv_has ls 1 [(0, .ref (a 0))] := hl
  refine lv_aload_n hx hb dX11_suspects_0 rfl (lv_at hl 0 rfl) ?_
  refine va_get (D := D) (ci := 17) (v := .ref (a 8)) (C := RX11) (T := TX11) (N := 11) hx hb ht in_X11 hown hK.1 (ro0 hP0 hS) 0 rfl rfl 7 (by decide) (ht _ w_84) (fun _ h9 => h9) rfl dX11_suspects_1 ?_
  have hPc : va_P D vwCl [((a 8), f_chip a)] _ := (ro0 hP0 hS).sub (ws' := [((a 8), f_chip a)]) [1] rfl
  have hDc : va_D (fun q => z0 ≤ q) [((a 8), f_chip a)] := hD0.pick (ws' := [((a 8), f_chip a)]) [1] (by decide) rfl
  have hFc := AnA (ws := []) hS.1
  refine va_calli (va_runV (As := []) (rest := []) ⟨hx, hb, hml, hown, ht⟩ (k_X1_suspectedPlaces l D g z0 _ a) (cwV 0 ht (gV w_291 w_293 w_294 w_106 w_292) rfl rfl rfl (by decide +kernel) (le2 rfl rfl)) ⟨PP.blind, va_recv hK.1 (ro0 hP0 hS) (ci := 7) (q0 := 1) rfl rfl, PP.mk' hK hZ hz hAz hS hPc hDc⟩ rfl rfl hl.1 rfl (lv_room (Nat.le_of_ble_eq_true rfl)) dX11_suspects_4 (le2 rfl rfl)) hS (fun q _ h => hFc q h) hFc (fun r u t H locs ht1 hvm hw hB hz1 hk1 hS => ?_)
  obtain ⟨rfl, hw⟩ := hw
  refine W.widen (k := 0) (n := 0) (Nat.le_of_ble_eq_true rfl) (Nat.le_of_ble_eq_true rfl) ?_
  exact W.iret (v := 0) hx hb hr (fun t ht9 hW9 => ⟨⟨0, (), rfl, ⟨rfl, trivial⟩, trivial⟩, hS.F ht9⟩) hS.2.2 dX11_suspects_7 hlocks
set_option maxHeartbeats 4000000 in
set_option maxRecDepth 100000 in
theorem k_X11_tally (l : Launch) (hfl : l.stackTraces = false) (D : va_G) (g : Nat → ClassId) (z0 sz : Nat) (a : Nat → Nat) (p0 : Int32) : vx_Met l yX11_tally (.code yX11_tally cX11_tally 2 (some .int) :: TG) (rmk 8 1 6 123) (va_Pc [.ref (a 0), .int p0] (PP D g z0 sz [((a 0), f_x a), ((a 2), f_book a)])) (va_Qi (fun (r : Int32) (u : Unit) => False) (fun (_ : Unit) (_ : State) => True) (va_A [] sz)) (vx_X (fun _ : Unit => True) (fun E _ _ => (E = "java/lang/IndexOutOfBoundsException" ∧ True)) (va_A [] sz)) 1 6 (va_A [] sz) := by
  refine vxm0 (cc := cX11_tally) (n := 2) (by decide) (Nat.le_of_ble_eq_true rfl) ?_
  intro p e s m args below meth c hx hb hr hml htab hown ht hlocks hnm hP0 hD0 hK hZ hsz hz ls hl
  subst hsz
  have hA : ∀ q : Nat, s.heap.size ≤ q → va_A [] s.heap.size q := Anw
  have hAz : ∀ q, va_A [] s.heap.size q → z0 ≤ q := A0z hz
  have hS : va_S (va_A [] s.heap.size) s.heap s.heap [] := va_S.rf
  have hl : lv_has ls 2 [(0, .ref (a 0)), (1, .int p0)] := hl
  refine lv_aload_n hx hb dX11_tally_0 rfl (lv_at hl 0 rfl) ?_
  refine lv_iload_n hx hb dX11_tally_1 rfl (lv_at hl 1 rfl) ?_
  have hPc : va_P D vwCl [((a 0), f_x a), ((a 2), f_book a)] _ := (ro0 hP0 hS).sub (ws' := [((a 0), f_x a), ((a 2), f_book a)]) [0, 1] rfl
  have hDc : va_D (fun q => z0 ≤ q) [((a 0), f_x a), ((a 2), f_book a)] := hD0.pick (ws' := [((a 0), f_x a), ((a 2), f_book a)]) [0, 1] (by decide) rfl
  have hFc := AnA (ws := []) hS.1
  refine vx_callv (vx_runV (As := [.int p0]) (rest := []) ⟨hx, hb, hml, hown, ht⟩ (k_X11_needStuck l hfl D g z0 _ a p0) (cwV 1 ht (gV w_75 w_77 w_78 w_31 w_76) rfl rfl rfl (by decide +kernel) (le2 rfl rfl)) ⟨PP.blind, va_recv hK.1 (ro0 hP0 hS) (ci := 17) (q0 := 0) rfl rfl, PP.mk' hK hZ hz hAz hS hPc hDc⟩ rfl rfl hl.1 rfl (lv_room (Nat.le_of_ble_eq_true rfl)) dX11_tally_2 (le2 rfl rfl)) hS (fun q _ h => hFc q h) hFc (fun q _ h => hFc q h) (fun E ce q9 u t H locs ht1 hvm hw hB hz1 hk1 hS hcell hv9 hcl => ?_) (fun u t H locs ht1 hvm hw hB hz1 hk1 hS => ?_)
  · obtain ⟨rfl, hB⟩ := hB
    exact out0 htab hlocks hS hcell hv9 hcl (fun t _ hF => ⟨(), trivial, ⟨rfl, trivial⟩, hF⟩) (fun _ h => h) rfl rfl
  · exact hw.elim
set_option maxHeartbeats 4000000 in
set_option maxRecDepth 100000 in
theorem k_X11_testPoint (l : Launch) (hfl : l.stackTraces = false) (D : va_G) (g : Nat → ClassId) (z0 sz : Nat) (a : Nat → Nat) (p0 : Int32) : vx_Met l yX11_testPoint (.code yX11_testPoint cX11_testPoint 2 (some .int) :: TG) (rmk 7 1 6 102) (va_Pc [.ref (a 0), .int p0] (PP D g z0 sz [((a 0), f_x a), ((a 1), f_net a)])) (va_Qi (fun (r : Int32) (u : Unit) => False) (fun (_ : Unit) (_ : State) => True) (va_A [] sz)) (vx_X (fun _ : Unit => True) (fun E _ _ => (E = "java/lang/IndexOutOfBoundsException" ∧ True)) (va_A [] sz)) 1 6 (va_A [] sz) := by
  refine vxm0 (cc := cX11_testPoint) (n := 2) (by decide) (Nat.le_of_ble_eq_true rfl) ?_
  intro p e s m args below meth c hx hb hr hml htab hown ht hlocks hnm hP0 hD0 hK hZ hsz hz ls hl
  subst hsz
  have hA : ∀ q : Nat, s.heap.size ≤ q → va_A [] s.heap.size q := Anw
  have hAz : ∀ q, va_A [] s.heap.size q → z0 ≤ q := A0z hz
  have hS : va_S (va_A [] s.heap.size) s.heap s.heap [] := va_S.rf
  have hl : lv_has ls 2 [(0, .ref (a 0)), (1, .int p0)] := hl
  refine lv_aload_n hx hb dX11_testPoint_0 rfl (lv_at hl 0 rfl) ?_
  refine lv_iload_n hx hb dX11_testPoint_1 rfl (lv_at hl 1 rfl) ?_
  have hPc : va_P D vwCl [((a 0), f_x a), ((a 1), f_net a)] _ := (ro0 hP0 hS).sub (ws' := [((a 0), f_x a), ((a 1), f_net a)]) [0, 1] rfl
  have hDc : va_D (fun q => z0 ≤ q) [((a 0), f_x a), ((a 1), f_net a)] := hD0.pick (ws' := [((a 0), f_x a), ((a 1), f_net a)]) [0, 1] (by decide) rfl
  have hFc := AnA (ws := []) hS.1
  refine vx_callv (vx_runV (As := [.int p0]) (rest := []) ⟨hx, hb, hml, hown, ht⟩ (k_X11_needLine l hfl D g z0 _ a p0) (cwV 1 ht (gV w_80 w_82 w_83 w_31 w_81) rfl rfl rfl (by decide +kernel) (le2 rfl rfl)) ⟨PP.blind, va_recv hK.1 (ro0 hP0 hS) (ci := 17) (q0 := 0) rfl rfl, PP.mk' hK hZ hz hAz hS hPc hDc⟩ rfl rfl hl.1 rfl (lv_room (Nat.le_of_ble_eq_true rfl)) dX11_testPoint_2 (le2 rfl rfl)) hS (fun q _ h => hFc q h) hFc (fun q _ h => hFc q h) (fun E ce q9 u t H locs ht1 hvm hw hB hz1 hk1 hS hcell hv9 hcl => ?_) (fun u t H locs ht1 hvm hw hB hz1 hk1 hS => ?_)
  · obtain ⟨rfl, hB⟩ := hB
    exact out0 htab hlocks hS hcell hv9 hcl (fun t _ hF => ⟨(), trivial, ⟨rfl, trivial⟩, hF⟩) (fun _ h => h) rfl rfl
  · exact hw.elim
set_option maxHeartbeats 4000000 in
set_option maxRecDepth 100000 in
theorem k_X11_tie (l : Launch) (hfl : l.stackTraces = false) (D : va_G) (g : Nat → ClassId) (z0 sz : Nat) (a : Nat → Nat) (p0 : Int32) : vx_Met l yX11_tie (.code yX11_tie cX11_tie 3 (some .int) :: TG) (rmk 8 1 6 123) (va_Pc [.ref (a 0), .int p0] (PP D g z0 sz [((a 0), f_x a), ((a 2), f_book a)])) (va_Qi (fun (r : Int32) (u : Unit) => False) (fun (_ : Unit) (_ : State) => True) (va_A [] sz)) (vx_X (fun _ : Unit => True) (fun E _ _ => (E = "java/lang/IndexOutOfBoundsException" ∧ True)) (va_A [] sz)) 1 6 (va_A [] sz) := by
  refine vxm0 (cc := cX11_tie) (n := 3) (by decide) (Nat.le_of_ble_eq_true rfl) ?_
  intro p e s m args below meth c hx hb hr hml htab hown ht hlocks hnm hP0 hD0 hK hZ hsz hz ls hl
  subst hsz
  have hA : ∀ q : Nat, s.heap.size ≤ q → va_A [] s.heap.size q := Anw
  have hAz : ∀ q, va_A [] s.heap.size q → z0 ≤ q := A0z hz
  have hS : va_S (va_A [] s.heap.size) s.heap s.heap [] := va_S.rf
  have hl : lv_has ls 3 [(0, .ref (a 0)), (1, .int p0)] := hl
  refine lv_aload_n hx hb dX11_tie_0 rfl (lv_at hl 0 rfl) ?_
  refine lv_iload_n hx hb dX11_tie_1 rfl (lv_at hl 1 rfl) ?_
  have hPc : va_P D vwCl [((a 0), f_x a), ((a 2), f_book a)] _ := (ro0 hP0 hS).sub (ws' := [((a 0), f_x a), ((a 2), f_book a)]) [0, 1] rfl
  have hDc : va_D (fun q => z0 ≤ q) [((a 0), f_x a), ((a 2), f_book a)] := hD0.pick (ws' := [((a 0), f_x a), ((a 2), f_book a)]) [0, 1] (by decide) rfl
  have hFc := AnA (ws := []) hS.1
  refine vx_callv (vx_runV (As := [.int p0]) (rest := []) ⟨hx, hb, hml, hown, ht⟩ (k_X11_needStuck l hfl D g z0 _ a p0) (cwV 1 ht (gV w_75 w_77 w_78 w_31 w_76) rfl rfl rfl (by decide +kernel) (le2 rfl rfl)) ⟨PP.blind, va_recv hK.1 (ro0 hP0 hS) (ci := 17) (q0 := 0) rfl rfl, PP.mk' hK hZ hz hAz hS hPc hDc⟩ rfl rfl hl.1 rfl (lv_room (Nat.le_of_ble_eq_true rfl)) dX11_tie_2 (le2 rfl rfl)) hS (fun q _ h => hFc q h) hFc (fun q _ h => hFc q h) (fun E ce q9 u t H locs ht1 hvm hw hB hz1 hk1 hS hcell hv9 hcl => ?_) (fun u t H locs ht1 hvm hw hB hz1 hk1 hS => ?_)
  · obtain ⟨rfl, hB⟩ := hB
    exact out0 htab hlocks hS hcell hv9 hcl (fun t _ hF => ⟨(), trivial, ⟨rfl, trivial⟩, hF⟩) (fun _ h => h) rfl rfl
  · exact hw.elim
set_option maxHeartbeats 4000000 in
set_option maxRecDepth 100000 in
theorem k_X7_neededFromLast (l : Launch) (D : va_G) (g : Nat → ClassId) (z0 sz : Nat) (a : Nat → Nat) : Met l yX7_neededFromLast (.code yX7_neededFromLast cX7_neededFromLast 6 (some .long) :: TG) (rmk 0 0 0 0) (va_Pc [.ref (a 3), .ref (a 4), .ref (a 2)] (PP D g z0 sz [((a 3), f_rows a)])) (va_Ql (fun (r : Int64) (u : Unit) => (r = 0) ∧ True) (fun (_ : Unit) (_ : State) => True) (va_A [] sz)) 0 0 (va_A [] sz) := by
  refine met0 (cc := cX7_neededFromLast) (n := 6) (by decide) (Nat.le_of_ble_eq_true rfl) ?_
  intro p e s m args below meth c hx hb hr hml hown ht hlocks hnm hP0 hD0 hK hZ hsz hz ls hl
  subst hsz
  have hA : ∀ q : Nat, s.heap.size ≤ q → va_A [] s.heap.size q := Anw
  have hAz : ∀ q, va_A [] s.heap.size q → z0 ≤ q := A0z hz
  have hS : va_S (va_A [] s.heap.size) s.heap s.heap [] := va_S.rf
  have hl : lv_has ls 6 [(0, .ref (a 3)), (1, .ref (a 4)), (2, .ref (a 2))] := hl
  refine lv_lconst (v := 0) hx hb dX7_neededFromLast_0 (by decide) ?_
  refine lv_lstore_n (lv' := [(3, .long 0), (0, .ref (a 3)), (1, .ref (a 4)), (2, .ref (a 2))]) hx hb dX7_neededFromLast_1 rfl hl (by decide) rfl (fun ls hl => ?_)
  refine lv_aload_n hx hb dX7_neededFromLast_2 rfl (lv_at hl 1 rfl) ?_
  refine va_get (D := D) (ci := 13) (v := .int 0) (C := RX7) (T := TX7) (N := 6) hx hb ht in_X7 hown hK.1 (ro0 hP0 hS) 0 rfl rfl 5 (by decide) (ht _ w_177) (fun _ h9 => h9) rfl dX7_neededFromLast_3 ?_
  refine lv_iconst (v := 1) hx hb dX7_neededFromLast_6 (by decide) ?_
  refine lv_isub hx hb dX7_neededFromLast_7 ?_
  refine r_topi (v := (-1)) (by decide) ?_
  refine lv_istore (lv' := [(5, .int (-1)), (3, .long 0), (0, .ref (a 3)), (1, .ref (a 4)), (2, .ref (a 2))]) hx hb dX7_neededFromLast_8 hl (by decide) rfl (fun ls hl => ?_)
  refine lv_iload hx hb dX7_neededFromLast_10 (lv_at hl 0 rfl) ?_
  refine lv_if_lt (tgt := 41) hx hb dX7_neededFromLast_12 (by decide) (fun c_1 => ?_) (fun c_1 => ?_)
  · refine lv_lload_n hx hb dX7_neededFromLast_41 rfl (lv_at hl 1 rfl) ?_
    refine W.widen (k := 0) (n := 0) (Nat.le_of_ble_eq_true rfl) (Nat.le_of_ble_eq_true rfl) ?_
    exact W.lret (v := 0) hx hb hr (fun t ht9 hW9 => ⟨⟨0, (), rfl, ⟨rfl, trivial⟩, trivial⟩, hS.F ht9⟩) hS.2.2 dX7_neededFromLast_42 hlocks
  · exact absurd c_1 (by decide)
set_option maxHeartbeats 4000000 in
set_option maxRecDepth 100000 in
theorem k_X7_keep (l : Launch) (D : va_G) (g : Nat → ClassId) (z0 sz : Nat) (a : Nat → Nat) (p0 : Int64) : Met l yX7_keep (.code yX7_keep cX7_keep 5 none :: TG) (rmk 0 0 0 0) (va_Pc [.ref (a 3), .long p0] (PP D g z0 sz [((a 3), f_rows a)])) (va_Qv (fun (u : Unit) => True) (fun (u : Unit) (t : State) => va_P D vwCl [((a 3), .inr (13, [.ref (a 33), .ref (a 34), .ref (a 35), .ref (a 36), .ref (a 37), .int 0]))] t.heap ∧ va_D (va_A [((a 3), f_rows a)] sz) [((a 3), .inr (13, [.ref (a 33), .ref (a 34), .ref (a 35), .ref (a 36), .ref (a 37), .int 0]))]) (va_A [((a 3), f_rows a)] sz)) 0 0 (va_A [((a 3), f_rows a)] sz) := by
  refine met0 (cc := cX7_keep) (n := 5) (by decide) (Nat.le_of_ble_eq_true rfl) ?_
  intro p e s m args below meth c hx hb hr hml hown ht hlocks hnm hP0 hD0 hK hZ hsz hz ls hl
  subst hsz
  have hA : ∀ q : Nat, s.heap.size ≤ q → va_A [((a 3), f_rows a)] s.heap.size q := Anw
  have hAz : ∀ q, va_A [((a 3), f_rows a)] s.heap.size q → z0 ≤ q := Awz hz hD0
  have hS : va_S (va_A [((a 3), f_rows a)] s.heap.size) s.heap s.heap [] := va_S.rf
  have hD : va_D (va_A [((a 3), f_rows a)] s.heap.size) [((a 3), f_rows a)] := hD0.self
  have hP : va_P D vwCl [((a 3), f_rows a)] s.heap := hP0
  have hl : lv_has ls 5 [(0, .ref (a 3)), (1, .long p0)] := hl
  refine lv_iconst (v := 0) hx hb dX7_keep_0 (by decide) ?_
  refine lv_istore_n (lv' := [(3, .int 0), (0, .ref (a 3)), (1, .long p0)]) hx hb dX7_keep_1 rfl hl (by decide) rfl (fun ls hl => ?_)
  refine lv_iconst (v := 0) hx hb dX7_keep_2 (by decide) ?_
  refine lv_istore (lv' := [(4, .int 0), (3, .int 0), (0, .ref (a 3)), (1, .long p0)]) hx hb dX7_keep_3 hl (by decide) rfl (fun ls hl => ?_)
  refine lv_iload hx hb dX7_keep_5 (lv_at hl 0 rfl) ?_
  refine lv_aload_n hx hb dX7_keep_7 rfl (lv_at hl 2 rfl) ?_
  refine va_get (D := D) (ci := 13) (v := .int 0) (C := RX7) (T := TX7) (N := 6) hx hb ht in_X7 hown hK.1 hP 0 rfl rfl 5 (by decide) (ht _ w_177) (fun _ h9 => h9) rfl dX7_keep_8 ?_
  refine lv_icmp_ge (tgt := 41) hx hb dX7_keep_11 (by decide) (fun c_1 => ?_) (fun c_1 => ?_)
  · refine lv_aload_n hx hb dX7_keep_41 rfl (lv_at hl 2 rfl) ?_
    refine lv_iload_n hx hb dX7_keep_42 rfl (lv_at hl 1 rfl) ?_
    refine va_put (D := D) (ci := 13) (v := .int 0) (ty := .int) (C := RX7) (T := TX7) (N := 6) hx hb ht in_X7 tyX7 tyX7_ok nmX7 hown hK.1 hP hD hS 0 rfl rfl 5 (by decide) (ht _ w_177) (fun _ h9 => h9) rfl (by decide +kernel) rfl rfl (Nat.le_of_ble_eq_true rfl) dX7_keep_43 (fun H locs hP hD hS => ?_)
    have hP : va_P D vwCl [((a 3), .inr (13, [.ref (a 33), .ref (a 34), .ref (a 35), .ref (a 36), .ref (a 37), .int 0]))] H := hP
    have hD : va_D (va_A [((a 3), f_rows a)] s.heap.size) [((a 3), .inr (13, [.ref (a 33), .ref (a 34), .ref (a 35), .ref (a 36), .ref (a 37), .int 0]))] := hD
    have hP9 := hP.sub (ws' := [((a 3), .inr (13, [.ref (a 33), .ref (a 34), .ref (a 35), .ref (a 36), .ref (a 37), .int 0]))]) [0] rfl
    have hD9 := hD.sub (ws' := [((a 3), .inr (13, [.ref (a 33), .ref (a 34), .ref (a 35), .ref (a 36), .ref (a 37), .int 0]))]) [0] (by decide) rfl
    refine W.widen (k := 0) (n := 0) (Nat.le_of_ble_eq_true rfl) (Nat.le_of_ble_eq_true rfl) ?_
    exact W.vret hx hb hr (fun t ht9 hW9 => ⟨⟨(), rfl, trivial, ⟨(by rw [ht9]; exact hP9), hD9⟩⟩, hS.F ht9⟩) hS.2.2 dX7_keep_46 hlocks
  · exact absurd c_1 (by decide)
set_option maxHeartbeats 4000000 in
set_option maxRecDepth 100000 in
theorem k_X11_turnAbout (l : Launch) (D : va_G) (g : Nat → ClassId) (z0 sz : Nat) (a : Nat → Nat) : Met l yX11_turnAbout (.code yX11_turnAbout cX11_turnAbout 1 (some .int) :: TG) (rmk 4 0 0 90) (va_Pc [.ref (a 0)] (PP D g z0 sz [((a 0), f_x a), ((a 3), f_rows a), ((a 4), f_words a), ((a 38), .inl (g 1, 12, .inr (.inl (fun _ => 0)))), ((a 39), .inl (g 1, 12, .inr (.inl (fun _ => 0)))), ((a 1), f_net a), ((a 2), f_book a)])) (va_Qi (fun (r : Int32) (u : Unit) => (r = 0) ∧ True) (fun (u : Unit) (t : State) => va_P D vwCl [] t.heap ∧ va_D (va_A [((a 0), f_x a), ((a 3), f_rows a), ((a 4), f_words a), ((a 38), .inl (g 1, 12, .inr (.inl (fun _ => 0)))), ((a 39), .inl (g 1, 12, .inr (.inl (fun _ => 0)))), ((a 1), f_net a), ((a 2), f_book a)] sz) []) (va_A [((a 0), f_x a), ((a 3), f_rows a), ((a 4), f_words a), ((a 38), .inl (g 1, 12, .inr (.inl (fun _ => 0)))), ((a 39), .inl (g 1, 12, .inr (.inl (fun _ => 0)))), ((a 1), f_net a), ((a 2), f_book a)] sz)) 0 0 (va_A [((a 0), f_x a), ((a 3), f_rows a), ((a 4), f_words a), ((a 38), .inl (g 1, 12, .inr (.inl (fun _ => 0)))), ((a 39), .inl (g 1, 12, .inr (.inl (fun _ => 0)))), ((a 1), f_net a), ((a 2), f_book a)] sz) := by
  refine met0 (cc := cX11_turnAbout) (n := 1) (by decide) (Nat.le_of_ble_eq_true rfl) ?_
  intro p e s m args below meth c hx hb hr hml hown ht hlocks hnm hP0 hD0 hK hZ hsz hz ls hl
  subst hsz
  have hA : ∀ q : Nat, s.heap.size ≤ q → va_A [((a 0), f_x a), ((a 3), f_rows a), ((a 4), f_words a), ((a 38), .inl (g 1, 12, .inr (.inl (fun _ => 0)))), ((a 39), .inl (g 1, 12, .inr (.inl (fun _ => 0)))), ((a 1), f_net a), ((a 2), f_book a)] s.heap.size q := Anw
  have hAz : ∀ q, va_A [((a 0), f_x a), ((a 3), f_rows a), ((a 4), f_words a), ((a 38), .inl (g 1, 12, .inr (.inl (fun _ => 0)))), ((a 39), .inl (g 1, 12, .inr (.inl (fun _ => 0)))), ((a 1), f_net a), ((a 2), f_book a)] s.heap.size q → z0 ≤ q := Awz hz hD0
  have hS : va_S (va_A [((a 0), f_x a), ((a 3), f_rows a), ((a 4), f_words a), ((a 38), .inl (g 1, 12, .inr (.inl (fun _ => 0)))), ((a 39), .inl (g 1, 12, .inr (.inl (fun _ => 0)))), ((a 1), f_net a), ((a 2), f_book a)] s.heap.size) s.heap s.heap [] := va_S.rf
  have hD : va_D (va_A [((a 0), f_x a), ((a 3), f_rows a), ((a 4), f_words a), ((a 38), .inl (g 1, 12, .inr (.inl (fun _ => 0)))), ((a 39), .inl (g 1, 12, .inr (.inl (fun _ => 0)))), ((a 1), f_net a), ((a 2), f_book a)] s.heap.size) [((a 0), f_x a), ((a 3), f_rows a), ((a 4), f_words a), ((a 38), .inl (g 1, 12, .inr (.inl (fun _ => 0)))), ((a 39), .inl (g 1, 12, .inr (.inl (fun _ => 0)))), ((a 1), f_net a), ((a 2), f_book a)] := hD0.self
  have hP : va_P D vwCl [((a 0), f_x a), ((a 3), f_rows a), ((a 4), f_words a), ((a 38), .inl (g 1, 12, .inr (.inl (fun _ => 0)))), ((a 39), .inl (g 1, 12, .inr (.inl (fun _ => 0)))), ((a 1), f_net a), ((a 2), f_book a)] s.heap := hP0
  have hl : lv_has ls 1 [(0, .ref (a 0))] := hl
  refine lv_aload_n hx hb dX11_turnAbout_0 rfl (lv_at hl 0 rfl) ?_
  refine va_get (D := D) (ci := 17) (v := .ref (a 4)) (C := RX11) (T := TX11) (N := 11) hx hb ht in_X11 hown hK.1 hP 0 rfl rfl 3 (by decide) (ht _ w_0) (fun _ h9 => h9) rfl dX11_turnAbout_1 ?_
  refine lv_aload_n hx hb dX11_turnAbout_4 rfl (lv_at hl 0 rfl) ?_
  refine va_get (D := D) (ci := 17) (v := .ref (a 3)) (C := RX11) (T := TX11) (N := 11) hx hb ht in_X11 hown hK.1 hP 0 rfl rfl 2 (by decide) (ht _ w_1) (fun _ h9 => h9) rfl dX11_turnAbout_5 ?_
  have hPc : va_P D vwCl [((a 3), f_rows a), ((a 4), f_words a), ((a 38), .inl (g 1, 12, .inr (.inl (fun _ => 0)))), ((a 39), .inl (g 1, 12, .inr (.inl (fun _ => 0)))), ((a 1), f_net a), ((a 2), f_book a)] _ := hP.sub (ws' := [((a 3), f_rows a), ((a 4), f_words a), ((a 38), .inl (g 1, 12, .inr (.inl (fun _ => 0)))), ((a 39), .inl (g 1, 12, .inr (.inl (fun _ => 0)))), ((a 1), f_net a), ((a 2), f_book a)]) [1, 2, 3, 4, 5, 6] rfl
  have hDc : va_D (fun q => z0 ≤ q) [((a 3), f_rows a), ((a 4), f_words a), ((a 38), .inl (g 1, 12, .inr (.inl (fun _ => 0)))), ((a 39), .inl (g 1, 12, .inr (.inl (fun _ => 0)))), ((a 1), f_net a), ((a 2), f_book a)] := (hD.to hAz).pick (ws' := [((a 3), f_rows a), ((a 4), f_words a), ((a 38), .inl (g 1, 12, .inr (.inl (fun _ => 0)))), ((a 39), .inl (g 1, 12, .inr (.inl (fun _ => 0)))), ((a 1), f_net a), ((a 2), f_book a)]) [1, 2, 3, 4, 5, 6] (by decide) rfl
  have hFc := va_free (wc := [((a 3), f_rows a), ((a 4), f_words a), ((a 38), .inl (g 1, 12, .inr (.inl (fun _ => 0)))), ((a 39), .inl (g 1, 12, .inr (.inl (fun _ => 0)))), ((a 1), f_net a), ((a 2), f_book a)]) hD hS hA [1, 2, 3, 4, 5, 6] rfl
  refine va_callv (va_runV (As := [.ref (a 3)]) (rest := []) ⟨hx, hb, hml, hown, ht⟩ (k_X10_findAll l D g z0 _ a) (cwV 1 ht (gV w_172 w_174 w_175 w_14 w_173) rfl rfl rfl (by decide +kernel) (le2 rfl rfl)) ⟨PP.blind, va_recv hK.1 hP (ci := 16) (q0 := 2) rfl rfl, PP.mk' hK hZ hz hAz hS hPc hDc⟩ rfl rfl hl.1 rfl (lv_room (Nat.le_of_ble_eq_true rfl)) dX11_turnAbout_8 (le2 rfl rfl)) hS (fun q _ h => hFc q h) hFc (fun u t H locs ht1 hvm hw hB hz1 hk1 hS => ?_)
  obtain ⟨hP1, hD1⟩ := hB
  rw [ht1] at hP1
  obtain ⟨hP, hD⟩ := va_join (wr := [((a 0), f_x a)]) (w1 := [((a 2), f_book a), ((a 3), f_rows a), ((a 38), .inl (g 1, 12, .inr (.inl (fun _ => 0)))), ((a 39), .inl (g 1, 12, .inr (.inl (fun _ => 0)))), ((a 4), f_words a), ((a 1), f_net a)]) hP hD [1, 2, 3, 4, 5, 6] [0] rfl rfl (by decide) (by decide) hk1 hFc hP1 hD1
  have hP : va_P D vwCl [((a 0), f_x a), ((a 2), f_book a), ((a 3), f_rows a), ((a 38), .inl (g 1, 12, .inr (.inl (fun _ => 0)))), ((a 39), .inl (g 1, 12, .inr (.inl (fun _ => 0)))), ((a 4), f_words a), ((a 1), f_net a)] H := hP
  have hD : va_D (va_A [((a 0), f_x a), ((a 3), f_rows a), ((a 4), f_words a), ((a 38), .inl (g 1, 12, .inr (.inl (fun _ => 0)))), ((a 39), .inl (g 1, 12, .inr (.inl (fun _ => 0)))), ((a 1), f_net a), ((a 2), f_book a)] s.heap.size) [((a 0), f_x a), ((a 2), f_book a), ((a 3), f_rows a), ((a 38), .inl (g 1, 12, .inr (.inl (fun _ => 0)))), ((a 39), .inl (g 1, 12, .inr (.inl (fun _ => 0)))), ((a 4), f_words a), ((a 1), f_net a)] := hD
  refine lv_aload_n hx hb dX11_turnAbout_11 rfl (lv_at hl 0 rfl) ?_
  refine va_get (D := D) (ci := 17) (v := .ref (a 3)) (C := RX11) (T := TX11) (N := 11) hx hb ht in_X11 hown hK.1 hP 0 rfl rfl 2 (by decide) (ht _ w_1) (fun _ h9 => h9) rfl dX11_turnAbout_12 ?_
  refine lv_aload_n hx hb dX11_turnAbout_15 rfl (lv_at hl 0 rfl) ?_
  refine va_get (D := D) (ci := 17) (v := .ref (a 3)) (C := RX11) (T := TX11) (N := 11) hx hb ht in_X11 hown hK.1 hP 0 rfl rfl 2 (by decide) (ht _ w_1) (fun _ h9 => h9) rfl dX11_turnAbout_16 ?_
  refine lv_aload_n hx hb dX11_turnAbout_19 rfl (lv_at hl 0 rfl) ?_
  refine va_get (D := D) (ci := 17) (v := .ref (a 4)) (C := RX11) (T := TX11) (N := 11) hx hb ht in_X11 hown hK.1 hP 0 rfl rfl 3 (by decide) (ht _ w_0) (fun _ h9 => h9) rfl dX11_turnAbout_20 ?_
  refine lv_aload_n hx hb dX11_turnAbout_23 rfl (lv_at hl 0 rfl) ?_
  refine va_get (D := D) (ci := 17) (v := .ref (a 2)) (C := RX11) (T := TX11) (N := 11) hx hb ht in_X11 hown hK.1 hP 0 rfl rfl 1 (by decide) (ht _ w_32) (fun _ h9 => h9) rfl dX11_turnAbout_24 ?_
  have hPc : va_P D vwCl [((a 3), f_rows a)] _ := hP.sub (ws' := [((a 3), f_rows a)]) [2] rfl
  have hDc : va_D (fun q => z0 ≤ q) [((a 3), f_rows a)] := (hD.to hAz).pick (ws' := [((a 3), f_rows a)]) [2] (by decide) rfl
  have hFc := AnA (ws := [((a 0), f_x a), ((a 3), f_rows a), ((a 4), f_words a), ((a 38), .inl (g 1, 12, .inr (.inl (fun _ => 0)))), ((a 39), .inl (g 1, 12, .inr (.inl (fun _ => 0)))), ((a 1), f_net a), ((a 2), f_book a)]) hS.1
  refine va_calll (va_runV (As := [.ref (a 4), .ref (a 2)]) (rest := [.ref (a 3)]) ⟨hx, hb, hml, hown, ht⟩ (k_X7_neededFromLast l D g z0 _ a) (cwV 2 ht (gV w_295 w_297 w_298 w_182 w_296) rfl rfl rfl (by decide +kernel) (le2 rfl rfl)) ⟨PP.blind, va_recv hK.1 hP (ci := 13) (q0 := 2) rfl rfl, PP.mk' hK hZ hz hAz hS hPc hDc⟩ rfl rfl hl.1 rfl (lv_room (Nat.le_of_ble_eq_true rfl)) dX11_turnAbout_27 (le2 rfl rfl)) hS (fun q _ h => hFc q h) hFc (fun r u t H locs ht1 hvm hw hB hz1 hk1 hS => ?_)
  obtain ⟨rfl, hw⟩ := hw
  have hP := ro1 hP hk1
  have hPc : va_P D vwCl [((a 3), f_rows a)] _ := hP.sub (ws' := [((a 3), f_rows a)]) [2] rfl
  have hDc : va_D (fun q => z0 ≤ q) [((a 3), f_rows a)] := (hD.to hAz).pick (ws' := [((a 3), f_rows a)]) [2] (by decide) rfl
  have hFc := va_free (wc := [((a 3), f_rows a)]) hD hS hA [2] rfl
  refine va_callv (va_runV (As := [.long 0]) (rest := []) ⟨hx, hb, hml, hown, ht⟩ (k_X7_keep l D g z0 _ a 0) (cwV 1 ht (gV w_299 w_301 w_302 w_182 w_300) rfl rfl rfl (by decide +kernel) (le2 rfl rfl)) ⟨PP.blind, va_recv hK.1 hP (ci := 13) (q0 := 2) rfl rfl, PP.mk' hK hZ hz hAz hS hPc hDc⟩ rfl rfl hl.1 rfl (lv_room (Nat.le_of_ble_eq_true rfl)) dX11_turnAbout_30 (le2 rfl rfl)) hS (fun q _ h => hFc q h) hFc (fun u t H locs ht1 hvm hw hB hz1 hk1 hS => ?_)
  obtain ⟨hP1, hD1⟩ := hB
  rw [ht1] at hP1
  obtain ⟨hP, hD⟩ := va_join (wr := [((a 0), f_x a), ((a 2), f_book a), ((a 38), .inl (g 1, 12, .inr (.inl (fun _ => 0)))), ((a 39), .inl (g 1, 12, .inr (.inl (fun _ => 0)))), ((a 4), f_words a), ((a 1), f_net a)]) (w1 := [((a 3), f_rows a)]) hP hD [2] [0, 1, 3, 4, 5, 6] rfl rfl (by decide) (by decide) hk1 hFc hP1 hD1
  have hP : va_P D vwCl [((a 0), f_x a), ((a 2), f_book a), ((a 38), .inl (g 1, 12, .inr (.inl (fun _ => 0)))), ((a 39), .inl (g 1, 12, .inr (.inl (fun _ => 0)))), ((a 4), f_words a), ((a 1), f_net a), ((a 3), f_rows a)] H := hP
  have hD : va_D (va_A [((a 0), f_x a), ((a 3), f_rows a), ((a 4), f_words a), ((a 38), .inl (g 1, 12, .inr (.inl (fun _ => 0)))), ((a 39), .inl (g 1, 12, .inr (.inl (fun _ => 0)))), ((a 1), f_net a), ((a 2), f_book a)] s.heap.size) [((a 0), f_x a), ((a 2), f_book a), ((a 38), .inl (g 1, 12, .inr (.inl (fun _ => 0)))), ((a 39), .inl (g 1, 12, .inr (.inl (fun _ => 0)))), ((a 4), f_words a), ((a 1), f_net a), ((a 3), f_rows a)] := hD
  refine lv_aload_n hx hb dX11_turnAbout_33 rfl (lv_at hl 0 rfl) ?_
  refine va_get (D := D) (ci := 17) (v := .ref (a 3)) (C := RX11) (T := TX11) (N := 11) hx hb ht in_X11 hown hK.1 hP 0 rfl rfl 2 (by decide) (ht _ w_1) (fun _ h9 => h9) rfl dX11_turnAbout_34 ?_
  refine va_get (D := D) (ci := 13) (v := .int 0) (C := RX7) (T := TX7) (N := 6) hx hb ht in_X7 hown hK.1 hP 6 rfl rfl 5 (by decide) (ht _ w_26) (fun _ h9 => h9) rfl dX11_turnAbout_37 ?_
  have hP9 := hP.sub (ws' := []) [] rfl
  have hD9 := hD.sub (ws' := []) [] (by decide) rfl
  refine W.widen (k := 0) (n := 0) (Nat.le_of_ble_eq_true rfl) (Nat.le_of_ble_eq_true rfl) ?_
  exact W.iret (v := 0) hx hb hr (fun t ht9 hW9 => ⟨⟨0, (), rfl, ⟨rfl, trivial⟩, ⟨(by rw [ht9]; exact hP9), hD9⟩⟩, hS.F ht9⟩) hS.2.2 dX11_turnAbout_40 hlocks
set_option maxHeartbeats 4000000 in
set_option maxRecDepth 100000 in
theorem k_X11_value (l : Launch) (hfl : l.stackTraces = false) (D : va_G) (g : Nat → ClassId) (z0 sz : Nat) (a : Nat → Nat) (p0 : Int32) (p1 : Int32) : vx_Met l yX11_value (.code yX11_value cX11_value 3 (some .int) :: TG) (rmk 7 1 6 102) (va_Pc [.ref (a 0), .int p0, .int p1] (PP D g z0 sz [((a 0), f_x a), ((a 3), f_rows a)])) (va_Qi (fun (r : Int32) (u : Unit) => False) (fun (_ : Unit) (_ : State) => True) (va_A [] sz)) (vx_X (fun _ : Unit => True) (fun E _ _ => (E = "java/lang/IndexOutOfBoundsException" ∧ True)) (va_A [] sz)) 1 6 (va_A [] sz) := by
  refine vxm0 (cc := cX11_value) (n := 3) (by decide) (Nat.le_of_ble_eq_true rfl) ?_
  intro p e s m args below meth c hx hb hr hml htab hown ht hlocks hnm hP0 hD0 hK hZ hsz hz ls hl
  subst hsz
  have hA : ∀ q : Nat, s.heap.size ≤ q → va_A [] s.heap.size q := Anw
  have hAz : ∀ q, va_A [] s.heap.size q → z0 ≤ q := A0z hz
  have hS : va_S (va_A [] s.heap.size) s.heap s.heap [] := va_S.rf
  have hl : lv_has ls 3 [(0, .ref (a 0)), (1, .int p0), (2, .int p1)] := hl
  refine lv_aload_n hx hb dX11_value_0 rfl (lv_at hl 0 rfl) ?_
  refine lv_iload_n hx hb dX11_value_1 rfl (lv_at hl 1 rfl) ?_
  have hPc : va_P D vwCl [((a 0), f_x a), ((a 3), f_rows a)] _ := (ro0 hP0 hS).sub (ws' := [((a 0), f_x a), ((a 3), f_rows a)]) [0, 1] rfl
  have hDc : va_D (fun q => z0 ≤ q) [((a 0), f_x a), ((a 3), f_rows a)] := hD0.pick (ws' := [((a 0), f_x a), ((a 3), f_rows a)]) [0, 1] (by decide) rfl
  have hFc := AnA (ws := []) hS.1
  refine vx_callv (vx_runV (As := [.int p0]) (rest := []) ⟨hx, hb, hml, hown, ht⟩ (k_X11_needPattern l hfl D g z0 _ a p0) (cwV 1 ht (gV w_183 w_185 w_186 w_31 w_184) rfl rfl rfl (by decide +kernel) (le2 rfl rfl)) ⟨PP.blind, va_recv hK.1 (ro0 hP0 hS) (ci := 17) (q0 := 0) rfl rfl, PP.mk' hK hZ hz hAz hS hPc hDc⟩ rfl rfl hl.1 rfl (lv_room (Nat.le_of_ble_eq_true rfl)) dX11_value_2 (le2 rfl rfl)) hS (fun q _ h => hFc q h) hFc (fun q _ h => hFc q h) (fun E ce q9 u t H locs ht1 hvm hw hB hz1 hk1 hS hcell hv9 hcl => ?_) (fun u t H locs ht1 hvm hw hB hz1 hk1 hS => ?_)
  · obtain ⟨rfl, hB⟩ := hB
    exact out0 htab hlocks hS hcell hv9 hcl (fun t _ hF => ⟨(), trivial, ⟨rfl, trivial⟩, hF⟩) (fun _ h => h) rfl rfl
  · exact hw.elim
set_option maxHeartbeats 4000000 in
set_option maxRecDepth 100000 in
theorem k_X11_ways (l : Launch) (hfl : l.stackTraces = false) (D : va_G) (g : Nat → ClassId) (z0 sz : Nat) (a : Nat → Nat) (p0 : Int32) : vx_Met l yX11_ways (.code yX11_ways cX11_ways 2 (some .int) :: TG) (rmk 8 1 6 123) (va_Pc [.ref (a 0), .int p0] (PP D g z0 sz [((a 0), f_x a), ((a 2), f_book a)])) (va_Qi (fun (r : Int32) (u : Unit) => False) (fun (_ : Unit) (_ : State) => True) (va_A [] sz)) (vx_X (fun _ : Unit => True) (fun E _ _ => (E = "java/lang/IndexOutOfBoundsException" ∧ True)) (va_A [] sz)) 1 6 (va_A [] sz) := by
  refine vxm0 (cc := cX11_ways) (n := 2) (by decide) (Nat.le_of_ble_eq_true rfl) ?_
  intro p e s m args below meth c hx hb hr hml htab hown ht hlocks hnm hP0 hD0 hK hZ hsz hz ls hl
  subst hsz
  have hA : ∀ q : Nat, s.heap.size ≤ q → va_A [] s.heap.size q := Anw
  have hAz : ∀ q, va_A [] s.heap.size q → z0 ≤ q := A0z hz
  have hS : va_S (va_A [] s.heap.size) s.heap s.heap [] := va_S.rf
  have hl : lv_has ls 2 [(0, .ref (a 0)), (1, .int p0)] := hl
  refine lv_aload_n hx hb dX11_ways_0 rfl (lv_at hl 0 rfl) ?_
  refine lv_iload_n hx hb dX11_ways_1 rfl (lv_at hl 1 rfl) ?_
  have hPc : va_P D vwCl [((a 0), f_x a), ((a 2), f_book a)] _ := (ro0 hP0 hS).sub (ws' := [((a 0), f_x a), ((a 2), f_book a)]) [0, 1] rfl
  have hDc : va_D (fun q => z0 ≤ q) [((a 0), f_x a), ((a 2), f_book a)] := hD0.pick (ws' := [((a 0), f_x a), ((a 2), f_book a)]) [0, 1] (by decide) rfl
  have hFc := AnA (ws := []) hS.1
  refine vx_callv (vx_runV (As := [.int p0]) (rest := []) ⟨hx, hb, hml, hown, ht⟩ (k_X11_needStuck l hfl D g z0 _ a p0) (cwV 1 ht (gV w_75 w_77 w_78 w_31 w_76) rfl rfl rfl (by decide +kernel) (le2 rfl rfl)) ⟨PP.blind, va_recv hK.1 (ro0 hP0 hS) (ci := 17) (q0 := 0) rfl rfl, PP.mk' hK hZ hz hAz hS hPc hDc⟩ rfl rfl hl.1 rfl (lv_room (Nat.le_of_ble_eq_true rfl)) dX11_ways_2 (le2 rfl rfl)) hS (fun q _ h => hFc q h) hFc (fun q _ h => hFc q h) (fun E ce q9 u t H locs ht1 hvm hw hB hz1 hk1 hS hcell hv9 hcl => ?_) (fun u t H locs ht1 hvm hw hB hz1 hk1 hS => ?_)
  · obtain ⟨rfl, hB⟩ := hB
    exact out0 htab hlocks hS hcell hv9 hcl (fun t _ hF => ⟨(), trivial, ⟨rfl, trivial⟩, hF⟩) (fun _ h => h) rfl rfl
  · exact hw.elim
set_option maxHeartbeats 4000000 in
set_option maxRecDepth 100000 in
theorem k_X11_weight (l : Launch) (hfl : l.stackTraces = false) (D : va_G) (g : Nat → ClassId) (z0 sz : Nat) (a : Nat → Nat) (p0 : Int32) : vx_Met l yX11_weight (.code yX11_weight cX11_weight 2 (some .int) :: TG) (rmk 7 1 6 102) (va_Pc [.ref (a 0), .int p0] (PP D g z0 sz [((a 0), f_x a), ((a 1), f_net a)])) (va_Qi (fun (r : Int32) (u : Unit) => False) (fun (_ : Unit) (_ : State) => True) (va_A [] sz)) (vx_X (fun _ : Unit => True) (fun E _ _ => (E = "java/lang/IndexOutOfBoundsException" ∧ True)) (va_A [] sz)) 1 6 (va_A [] sz) := by
  refine vxm0 (cc := cX11_weight) (n := 2) (by decide) (Nat.le_of_ble_eq_true rfl) ?_
  intro p e s m args below meth c hx hb hr hml htab hown ht hlocks hnm hP0 hD0 hK hZ hsz hz ls hl
  subst hsz
  have hA : ∀ q : Nat, s.heap.size ≤ q → va_A [] s.heap.size q := Anw
  have hAz : ∀ q, va_A [] s.heap.size q → z0 ≤ q := A0z hz
  have hS : va_S (va_A [] s.heap.size) s.heap s.heap [] := va_S.rf
  have hl : lv_has ls 2 [(0, .ref (a 0)), (1, .int p0)] := hl
  refine lv_aload_n hx hb dX11_weight_0 rfl (lv_at hl 0 rfl) ?_
  refine lv_iload_n hx hb dX11_weight_1 rfl (lv_at hl 1 rfl) ?_
  have hPc : va_P D vwCl [((a 0), f_x a), ((a 1), f_net a)] _ := (ro0 hP0 hS).sub (ws' := [((a 0), f_x a), ((a 1), f_net a)]) [0, 1] rfl
  have hDc : va_D (fun q => z0 ≤ q) [((a 0), f_x a), ((a 1), f_net a)] := hD0.pick (ws' := [((a 0), f_x a), ((a 1), f_net a)]) [0, 1] (by decide) rfl
  have hFc := AnA (ws := []) hS.1
  refine vx_callv (vx_runV (As := [.int p0]) (rest := []) ⟨hx, hb, hml, hown, ht⟩ (k_X11_needLine l hfl D g z0 _ a p0) (cwV 1 ht (gV w_80 w_82 w_83 w_31 w_81) rfl rfl rfl (by decide +kernel) (le2 rfl rfl)) ⟨PP.blind, va_recv hK.1 (ro0 hP0 hS) (ci := 17) (q0 := 0) rfl rfl, PP.mk' hK hZ hz hAz hS hPc hDc⟩ rfl rfl hl.1 rfl (lv_room (Nat.le_of_ble_eq_true rfl)) dX11_weight_2 (le2 rfl rfl)) hS (fun q _ h => hFc q h) hFc (fun q _ h => hFc q h) (fun E ce q9 u t H locs ht1 hvm hw hB hz1 hk1 hS hcell hv9 hcl => ?_) (fun u t H locs ht1 hvm hw hB hz1 hk1 hS => ?_)
  · obtain ⟨rfl, hB⟩ := hB
    exact out0 htab hlocks hS hcell hv9 hcl (fun t _ hF => ⟨(), trivial, ⟨rfl, trivial⟩, hF⟩) (fun _ h => h) rfl rfl
  · exact hw.elim
set_option maxHeartbeats 4000000 in
set_option maxRecDepth 100000 in
theorem k_X11_wrong (l : Launch) (hfl : l.stackTraces = false) (D : va_G) (g : Nat → ClassId) (z0 sz : Nat) (a : Nat → Nat) (p0 : Int32) : vx_Met l yX11_wrong (.code yX11_wrong cX11_wrong 2 (some .int) :: TG) (rmk 8 1 6 123) (va_Pc [.ref (a 0), .int p0] (PP D g z0 sz [((a 0), f_x a), ((a 2), f_book a)])) (va_Qi (fun (r : Int32) (u : Unit) => False) (fun (_ : Unit) (_ : State) => True) (va_A [] sz)) (vx_X (fun _ : Unit => True) (fun E _ _ => (E = "java/lang/IndexOutOfBoundsException" ∧ True)) (va_A [] sz)) 1 6 (va_A [] sz) := by
  refine vxm0 (cc := cX11_wrong) (n := 2) (by decide) (Nat.le_of_ble_eq_true rfl) ?_
  intro p e s m args below meth c hx hb hr hml htab hown ht hlocks hnm hP0 hD0 hK hZ hsz hz ls hl
  subst hsz
  have hA : ∀ q : Nat, s.heap.size ≤ q → va_A [] s.heap.size q := Anw
  have hAz : ∀ q, va_A [] s.heap.size q → z0 ≤ q := A0z hz
  have hS : va_S (va_A [] s.heap.size) s.heap s.heap [] := va_S.rf
  have hl : lv_has ls 2 [(0, .ref (a 0)), (1, .int p0)] := hl
  refine lv_aload_n hx hb dX11_wrong_0 rfl (lv_at hl 0 rfl) ?_
  refine lv_iload_n hx hb dX11_wrong_1 rfl (lv_at hl 1 rfl) ?_
  have hPc : va_P D vwCl [((a 0), f_x a), ((a 2), f_book a)] _ := (ro0 hP0 hS).sub (ws' := [((a 0), f_x a), ((a 2), f_book a)]) [0, 1] rfl
  have hDc : va_D (fun q => z0 ≤ q) [((a 0), f_x a), ((a 2), f_book a)] := hD0.pick (ws' := [((a 0), f_x a), ((a 2), f_book a)]) [0, 1] (by decide) rfl
  have hFc := AnA (ws := []) hS.1
  refine vx_callv (vx_runV (As := [.int p0]) (rest := []) ⟨hx, hb, hml, hown, ht⟩ (k_X11_needStuck l hfl D g z0 _ a p0) (cwV 1 ht (gV w_75 w_77 w_78 w_31 w_76) rfl rfl rfl (by decide +kernel) (le2 rfl rfl)) ⟨PP.blind, va_recv hK.1 (ro0 hP0 hS) (ci := 17) (q0 := 0) rfl rfl, PP.mk' hK hZ hz hAz hS hPc hDc⟩ rfl rfl hl.1 rfl (lv_room (Nat.le_of_ble_eq_true rfl)) dX11_wrong_2 (le2 rfl rfl)) hS (fun q _ h => hFc q h) hFc (fun q _ h => hFc q h) (fun E ce q9 u t H locs ht1 hvm hw hB hz1 hk1 hS hcell hv9 hcl => ?_) (fun u t H locs ht1 hvm hw hB hz1 hk1 hS => ?_)
  · obtain ⟨rfl, hB⟩ := hB
    exact out0 htab hlocks hS hcell hv9 hcl (fun t _ hF => ⟨(), trivial, ⟨rfl, trivial⟩, hF⟩) (fun _ h => h) rfl rfl
  · exact hw.elim
