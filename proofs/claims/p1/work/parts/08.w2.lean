theorem w_700 : Cond.methodLink RL 140 yX11_record ∈ TG := tg (sg_8 _ (List.mem_of_getElem? (i := 8) (by decide +kernel))) (by decide +kernel)
theorem w_701 : Cond.code yX11_record cX11_record 2 (some .int) ∈ TG := tg (sg_8 _ (List.mem_of_getElem? (i := 11) (by decide +kernel))) (by decide +kernel)
theorem w_702 : Cond.instanceMethod yX11_record ∈ TG := tg (sg_8 _ (List.mem_of_getElem? (i := 9) (by decide +kernel))) (by decide +kernel)
theorem w_703 : Cond.selects RX11 yX11_record yX11_record ∈ TG := tg (sg_8 _ (List.mem_of_getElem? (i := 10) (by decide +kernel))) (by decide +kernel)
theorem w_704 : Cond.methodLink RL 176 yX11_repair ∈ TG := tg (sg_8 _ (List.mem_of_getElem? (i := 134) (by decide +kernel))) (by decide +kernel)
theorem w_705 : Cond.code yX11_repair cX11_repair 4 (some .int) ∈ TG := tg (sg_8 _ (List.mem_of_getElem? (i := 137) (by decide +kernel))) (by decide +kernel)
theorem w_706 : Cond.instanceMethod yX11_repair ∈ TG := tg (sg_8 _ (List.mem_of_getElem? (i := 135) (by decide +kernel))) (by decide +kernel)
theorem w_707 : Cond.selects RX11 yX11_repair yX11_repair ∈ TG := tg (sg_8 _ (List.mem_of_getElem? (i := 136) (by decide +kernel))) (by decide +kernel)
theorem w_708 : Cond.methodLink RL 195 yX11_sameAs ∈ TG := tg (sg_8 _ (List.mem_of_getElem? (i := 235) (by decide +kernel))) (by decide +kernel)
theorem w_709 : Cond.code yX11_sameAs cX11_sameAs 6 (some .int) ∈ TG := tg (sg_8 _ (List.mem_of_getElem? (i := 238) (by decide +kernel))) (by decide +kernel)
theorem w_710 : Cond.instanceMethod yX11_sameAs ∈ TG := tg (sg_8 _ (List.mem_of_getElem? (i := 236) (by decide +kernel))) (by decide +kernel)
theorem w_711 : Cond.selects RX11 yX11_sameAs yX11_sameAs ∈ TG := tg (sg_8 _ (List.mem_of_getElem? (i := 237) (by decide +kernel))) (by decide +kernel)
theorem w_712 : Cond.methodLink RL 110 yX11_seedFor ∈ TG := tg (sg_7 _ (List.mem_of_getElem? (i := 127) (by decide +kernel))) (by decide +kernel)
theorem w_713 : Cond.code yX11_seedFor cX11_seedFor 3 (some .int) ∈ TG := tg (sg_7 _ (List.mem_of_getElem? (i := 130) (by decide +kernel))) (by decide +kernel)
theorem w_714 : Cond.instanceMethod yX11_seedFor ∈ TG := tg (sg_7 _ (List.mem_of_getElem? (i := 128) (by decide +kernel))) (by decide +kernel)
theorem w_715 : Cond.selects RX11 yX11_seedFor yX11_seedFor ∈ TG := tg (sg_7 _ (List.mem_of_getElem? (i := 129) (by decide +kernel))) (by decide +kernel)
theorem w_716 : Cond.methodLink RL 149 yX11_seen ∈ TG := tg (sg_8 _ (List.mem_of_getElem? (i := 33) (by decide +kernel))) (by decide +kernel)
theorem w_717 : Cond.code yX11_seen cX11_seen 3 (some .int) ∈ TG := tg (sg_8 _ (List.mem_of_getElem? (i := 36) (by decide +kernel))) (by decide +kernel)
theorem w_718 : Cond.instanceMethod yX11_seen ∈ TG := tg (sg_8 _ (List.mem_of_getElem? (i := 34) (by decide +kernel))) (by decide +kernel)
theorem w_719 : Cond.selects RX11 yX11_seen yX11_seen ∈ TG := tg (sg_8 _ (List.mem_of_getElem? (i := 35) (by decide +kernel))) (by decide +kernel)
theorem w_720 : Cond.methodLink RL 152 yX11_setTime ∈ TG := tg (sg_8 _ (List.mem_of_getElem? (i := 44) (by decide +kernel))) (by decide +kernel)
theorem w_721 : Cond.code yX11_setTime cX11_setTime 4 (some .int) ∈ TG := tg (sg_8 _ (List.mem_of_getElem? (i := 47) (by decide +kernel))) (by decide +kernel)
theorem w_722 : Cond.instanceMethod yX11_setTime ∈ TG := tg (sg_8 _ (List.mem_of_getElem? (i := 45) (by decide +kernel))) (by decide +kernel)
theorem w_723 : Cond.selects RX11 yX11_setTime yX11_setTime ∈ TG := tg (sg_8 _ (List.mem_of_getElem? (i := 46) (by decide +kernel))) (by decide +kernel)
theorem w_724 : Cond.methodLink RL 186 yX11_shortWires ∈ TG := tg (sg_8 _ (List.mem_of_getElem? (i := 176) (by decide +kernel))) (by decide +kernel)
theorem w_725 : Cond.code yX11_shortWires cX11_shortWires 3 (some .int) ∈ TG := tg (sg_8 _ (List.mem_of_getElem? (i := 179) (by decide +kernel))) (by decide +kernel)
theorem w_726 : Cond.instanceMethod yX11_shortWires ∈ TG := tg (sg_8 _ (List.mem_of_getElem? (i := 177) (by decide +kernel))) (by decide +kernel)
theorem w_727 : Cond.selects RX11 yX11_shortWires yX11_shortWires ∈ TG := tg (sg_8 _ (List.mem_of_getElem? (i := 178) (by decide +kernel))) (by decide +kernel)
theorem w_728 : Cond.methodLink RL 113 yX11_signature ∈ TG := tg (sg_7 _ (List.mem_of_getElem? (i := 152) (by decide +kernel))) (by decide +kernel)
theorem w_729 : Cond.code yX11_signature cX11_signature 2 (some .int) ∈ TG := tg (sg_7 _ (List.mem_of_getElem? (i := 155) (by decide +kernel))) (by decide +kernel)
theorem w_730 : Cond.instanceMethod yX11_signature ∈ TG := tg (sg_7 _ (List.mem_of_getElem? (i := 153) (by decide +kernel))) (by decide +kernel)
theorem w_731 : Cond.selects RX11 yX11_signature yX11_signature ∈ TG := tg (sg_7 _ (List.mem_of_getElem? (i := 154) (by decide +kernel))) (by decide +kernel)
theorem w_732 : Cond.methodLink RL 65 yX11_slow ∈ TG := tg (sg_6 _ (List.mem_of_getElem? (i := 152) (by decide +kernel))) (by decide +kernel)
theorem w_733 : Cond.code yX11_slow cX11_slow 3 (some .int) ∈ TG := tg (sg_6 _ (List.mem_of_getElem? (i := 155) (by decide +kernel))) (by decide +kernel)
theorem w_734 : Cond.instanceMethod yX11_slow ∈ TG := tg (sg_6 _ (List.mem_of_getElem? (i := 153) (by decide +kernel))) (by decide +kernel)
theorem w_735 : Cond.selects RX11 yX11_slow yX11_slow ∈ TG := tg (sg_6 _ (List.mem_of_getElem? (i := 154) (by decide +kernel))) (by decide +kernel)
theorem w_736 : Cond.methodLink RL 143 yX11_tally ∈ TG := tg (sg_8 _ (List.mem_of_getElem? (i := 19) (by decide +kernel))) (by decide +kernel)
theorem w_737 : Cond.code yX11_tally cX11_tally 2 (some .int) ∈ TG := tg (sg_8 _ (List.mem_of_getElem? (i := 22) (by decide +kernel))) (by decide +kernel)
theorem w_738 : Cond.instanceMethod yX11_tally ∈ TG := tg (sg_8 _ (List.mem_of_getElem? (i := 20) (by decide +kernel))) (by decide +kernel)
theorem w_739 : Cond.selects RX11 yX11_tally yX11_tally ∈ TG := tg (sg_8 _ (List.mem_of_getElem? (i := 21) (by decide +kernel))) (by decide +kernel)
theorem w_740 : Cond.methodLink RL 39 yX11_testPoint ∈ TG := tg (sg_6 _ (List.mem_of_getElem? (i := 69) (by decide +kernel))) (by decide +kernel)
theorem w_741 : Cond.code yX11_testPoint cX11_testPoint 2 (some .int) ∈ TG := tg (sg_6 _ (List.mem_of_getElem? (i := 72) (by decide +kernel))) (by decide +kernel)
theorem w_742 : Cond.instanceMethod yX11_testPoint ∈ TG := tg (sg_6 _ (List.mem_of_getElem? (i := 70) (by decide +kernel))) (by decide +kernel)
theorem w_743 : Cond.selects RX11 yX11_testPoint yX11_testPoint ∈ TG := tg (sg_6 _ (List.mem_of_getElem? (i := 71) (by decide +kernel))) (by decide +kernel)
theorem w_744 : Cond.methodLink RL 91 yX11_tie ∈ TG := tg (sg_7 _ (List.mem_of_getElem? (i := 59) (by decide +kernel))) (by decide +kernel)
theorem w_745 : Cond.code yX11_tie cX11_tie 3 (some .int) ∈ TG := tg (sg_7 _ (List.mem_of_getElem? (i := 62) (by decide +kernel))) (by decide +kernel)
theorem w_746 : Cond.instanceMethod yX11_tie ∈ TG := tg (sg_7 _ (List.mem_of_getElem? (i := 60) (by decide +kernel))) (by decide +kernel)
theorem w_747 : Cond.selects RX11 yX11_tie yX11_tie ∈ TG := tg (sg_7 _ (List.mem_of_getElem? (i := 61) (by decide +kernel))) (by decide +kernel)
theorem w_748 : Cond.methodLink RL 46 yX11_value ∈ TG := tg (sg_6 _ (List.mem_of_getElem? (i := 93) (by decide +kernel))) (by decide +kernel)
theorem w_749 : Cond.code yX11_value cX11_value 3 (some .int) ∈ TG := tg (sg_6 _ (List.mem_of_getElem? (i := 96) (by decide +kernel))) (by decide +kernel)
theorem w_750 : Cond.instanceMethod yX11_value ∈ TG := tg (sg_6 _ (List.mem_of_getElem? (i := 94) (by decide +kernel))) (by decide +kernel)
theorem w_751 : Cond.selects RX11 yX11_value yX11_value ∈ TG := tg (sg_6 _ (List.mem_of_getElem? (i := 95) (by decide +kernel))) (by decide +kernel)
theorem w_752 : Cond.methodLink RL 122 yX11_ways ∈ TG := tg (sg_7 _ (List.mem_of_getElem? (i := 186) (by decide +kernel))) (by decide +kernel)
theorem w_753 : Cond.code yX11_ways cX11_ways 2 (some .int) ∈ TG := tg (sg_7 _ (List.mem_of_getElem? (i := 189) (by decide +kernel))) (by decide +kernel)
theorem w_754 : Cond.instanceMethod yX11_ways ∈ TG := tg (sg_7 _ (List.mem_of_getElem? (i := 187) (by decide +kernel))) (by decide +kernel)
theorem w_755 : Cond.selects RX11 yX11_ways yX11_ways ∈ TG := tg (sg_7 _ (List.mem_of_getElem? (i := 188) (by decide +kernel))) (by decide +kernel)
theorem w_756 : Cond.methodLink RL 119 yX11_weight ∈ TG := tg (sg_7 _ (List.mem_of_getElem? (i := 175) (by decide +kernel))) (by decide +kernel)
theorem w_757 : Cond.code yX11_weight cX11_weight 2 (some .int) ∈ TG := tg (sg_7 _ (List.mem_of_getElem? (i := 178) (by decide +kernel))) (by decide +kernel)
theorem w_758 : Cond.instanceMethod yX11_weight ∈ TG := tg (sg_7 _ (List.mem_of_getElem? (i := 176) (by decide +kernel))) (by decide +kernel)
theorem w_759 : Cond.selects RX11 yX11_weight yX11_weight ∈ TG := tg (sg_7 _ (List.mem_of_getElem? (i := 177) (by decide +kernel))) (by decide +kernel)
theorem w_760 : Cond.methodLink RL 137 yX11_wrong ∈ TG := tg (sg_8 _ (List.mem_of_getElem? (i := 1) (by decide +kernel))) (by decide +kernel)
theorem w_761 : Cond.code yX11_wrong cX11_wrong 2 (some .int) ∈ TG := tg (sg_8 _ (List.mem_of_getElem? (i := 4) (by decide +kernel))) (by decide +kernel)
theorem w_762 : Cond.instanceMethod yX11_wrong ∈ TG := tg (sg_8 _ (List.mem_of_getElem? (i := 2) (by decide +kernel))) (by decide +kernel)
theorem w_763 : Cond.selects RX11 yX11_wrong yX11_wrong ∈ TG := tg (sg_8 _ (List.mem_of_getElem? (i := 3) (by decide +kernel))) (by decide +kernel)
theorem dL_record_0 : decode cL_record 0 = .ok (.aload_n 1, 1) := by decide +kernel
theorem dL_record_1 : decode cL_record 1 = .ok (.iconst 0, 1) := by decide +kernel
theorem dL_record_2 : decode cL_record 2 = .ok (.aload_n 0, 1) := by decide +kernel
theorem dL_record_3 : decode cL_record 3 = .ok (.invokevirtual 140, 3) := by decide +kernel
theorem dL_record_6 : decode cL_record 6 = .ok (.i2l, 1) := by decide +kernel
theorem dL_record_7 : decode cL_record 7 = .ok (.lastore, 1) := by decide +kernel
theorem dL_record_8 : decode cL_record 8 = .ok (.goto 6, 3) := by decide +kernel
theorem dL_record_11 : decode cL_record 11 = .ok (.astore_n 2, 1) := by decide +kernel
theorem dL_record_12 : decode cL_record 12 = .ok (.iconst 1, 1) := by decide +kernel
theorem dL_record_13 : decode cL_record 13 = .ok (.ireturn, 1) := by decide +kernel
theorem dL_record_14 : decode cL_record 14 = .ok (.iconst 0, 1) := by decide +kernel
theorem dL_record_15 : decode cL_record 15 = .ok (.ireturn, 1) := by decide +kernel
theorem dL_repair_0 : decode cL_repair 0 = .ok (.aload_n 3, 1) := by decide +kernel
theorem dL_repair_1 : decode cL_repair 1 = .ok (.iconst 0, 1) := by decide +kernel
theorem dL_repair_2 : decode cL_repair 2 = .ok (.aload_n 0, 1) := by decide +kernel
theorem dL_repair_3 : decode cL_repair 3 = .ok (.iload_n 1, 1) := by decide +kernel
theorem dL_repair_4 : decode cL_repair 4 = .ok (.iload_n 2, 1) := by decide +kernel
theorem dL_repair_5 : decode cL_repair 5 = .ok (.invokevirtual 176, 3) := by decide +kernel
theorem dL_repair_8 : decode cL_repair 8 = .ok (.i2l, 1) := by decide +kernel
theorem dL_repair_9 : decode cL_repair 9 = .ok (.lastore, 1) := by decide +kernel
theorem dL_repair_10 : decode cL_repair 10 = .ok (.goto 11, 3) := by decide +kernel
theorem dL_repair_13 : decode cL_repair 13 = .ok (.astore 4, 2) := by decide +kernel
theorem dL_repair_15 : decode cL_repair 15 = .ok (.iconst 1, 1) := by decide +kernel
theorem dL_repair_16 : decode cL_repair 16 = .ok (.ireturn, 1) := by decide +kernel
theorem dL_repair_17 : decode cL_repair 17 = .ok (.astore 4, 2) := by decide +kernel
theorem dL_repair_19 : decode cL_repair 19 = .ok (.iconst 2, 1) := by decide +kernel
theorem dL_repair_20 : decode cL_repair 20 = .ok (.ireturn, 1) := by decide +kernel
theorem dL_repair_21 : decode cL_repair 21 = .ok (.iconst 0, 1) := by decide +kernel
theorem dL_repair_22 : decode cL_repair 22 = .ok (.ireturn, 1) := by decide +kernel
theorem dL_sameAs_0 : decode cL_sameAs 0 = .ok (.aload_n 3, 1) := by decide +kernel
theorem dL_sameAs_1 : decode cL_sameAs 1 = .ok (.iconst 0, 1) := by decide +kernel
theorem dL_sameAs_2 : decode cL_sameAs 2 = .ok (.aload_n 0, 1) := by decide +kernel
theorem dL_sameAs_3 : decode cL_sameAs 3 = .ok (.iload_n 1, 1) := by decide +kernel
theorem dL_sameAs_4 : decode cL_sameAs 4 = .ok (.iload_n 2, 1) := by decide +kernel
theorem dL_sameAs_5 : decode cL_sameAs 5 = .ok (.invokevirtual 195, 3) := by decide +kernel
theorem dL_sameAs_8 : decode cL_sameAs 8 = .ok (.i2l, 1) := by decide +kernel
theorem dL_sameAs_9 : decode cL_sameAs 9 = .ok (.lastore, 1) := by decide +kernel
theorem dL_sameAs_10 : decode cL_sameAs 10 = .ok (.goto 11, 3) := by decide +kernel
theorem dL_sameAs_13 : decode cL_sameAs 13 = .ok (.astore 4, 2) := by decide +kernel
theorem dL_sameAs_15 : decode cL_sameAs 15 = .ok (.iconst 1, 1) := by decide +kernel
theorem dL_sameAs_16 : decode cL_sameAs 16 = .ok (.ireturn, 1) := by decide +kernel
theorem dL_sameAs_17 : decode cL_sameAs 17 = .ok (.astore 4, 2) := by decide +kernel
theorem dL_sameAs_19 : decode cL_sameAs 19 = .ok (.iconst 2, 1) := by decide +kernel
theorem dL_sameAs_20 : decode cL_sameAs 20 = .ok (.ireturn, 1) := by decide +kernel
theorem dL_sameAs_21 : decode cL_sameAs 21 = .ok (.iconst 0, 1) := by decide +kernel
theorem dL_sameAs_22 : decode cL_sameAs 22 = .ok (.ireturn, 1) := by decide +kernel
theorem dL_seedFor_0 : decode cL_seedFor 0 = .ok (.aload_n 2, 1) := by decide +kernel
theorem dL_seedFor_1 : decode cL_seedFor 1 = .ok (.iconst 0, 1) := by decide +kernel
theorem dL_seedFor_2 : decode cL_seedFor 2 = .ok (.aload_n 0, 1) := by decide +kernel
theorem dL_seedFor_3 : decode cL_seedFor 3 = .ok (.iload_n 1, 1) := by decide +kernel
theorem dL_seedFor_4 : decode cL_seedFor 4 = .ok (.invokevirtual 110, 3) := by decide +kernel
theorem dL_seedFor_7 : decode cL_seedFor 7 = .ok (.i2l, 1) := by decide +kernel
theorem dL_seedFor_8 : decode cL_seedFor 8 = .ok (.lastore, 1) := by decide +kernel
theorem dL_seedFor_9 : decode cL_seedFor 9 = .ok (.goto 9, 3) := by decide +kernel
theorem dL_seedFor_12 : decode cL_seedFor 12 = .ok (.astore_n 3, 1) := by decide +kernel
theorem dL_seedFor_13 : decode cL_seedFor 13 = .ok (.iconst 1, 1) := by decide +kernel
theorem dL_seedFor_14 : decode cL_seedFor 14 = .ok (.ireturn, 1) := by decide +kernel
theorem dL_seedFor_15 : decode cL_seedFor 15 = .ok (.astore_n 3, 1) := by decide +kernel
theorem dL_seedFor_16 : decode cL_seedFor 16 = .ok (.iconst 2, 1) := by decide +kernel
theorem dL_seedFor_17 : decode cL_seedFor 17 = .ok (.ireturn, 1) := by decide +kernel
theorem dL_seedFor_18 : decode cL_seedFor 18 = .ok (.iconst 0, 1) := by decide +kernel
theorem dL_seedFor_19 : decode cL_seedFor 19 = .ok (.ireturn, 1) := by decide +kernel
theorem dL_seen_0 : decode cL_seen 0 = .ok (.aload_n 3, 1) := by decide +kernel
theorem dL_seen_1 : decode cL_seen 1 = .ok (.iconst 0, 1) := by decide +kernel
theorem dL_seen_2 : decode cL_seen 2 = .ok (.aload_n 0, 1) := by decide +kernel
theorem dL_seen_3 : decode cL_seen 3 = .ok (.iload_n 1, 1) := by decide +kernel
theorem dL_seen_4 : decode cL_seen 4 = .ok (.iload_n 2, 1) := by decide +kernel
theorem dL_seen_5 : decode cL_seen 5 = .ok (.invokevirtual 149, 3) := by decide +kernel
theorem dL_seen_8 : decode cL_seen 8 = .ok (.i2l, 1) := by decide +kernel
theorem dL_seen_9 : decode cL_seen 9 = .ok (.lastore, 1) := by decide +kernel
theorem dL_seen_10 : decode cL_seen 10 = .ok (.goto 7, 3) := by decide +kernel
theorem dL_seen_13 : decode cL_seen 13 = .ok (.astore 4, 2) := by decide +kernel
theorem dL_seen_15 : decode cL_seen 15 = .ok (.iconst 1, 1) := by decide +kernel
theorem dL_seen_16 : decode cL_seen 16 = .ok (.ireturn, 1) := by decide +kernel
theorem dL_seen_17 : decode cL_seen 17 = .ok (.iconst 0, 1) := by decide +kernel
theorem dL_seen_18 : decode cL_seen 18 = .ok (.ireturn, 1) := by decide +kernel
theorem dL_setTime_0 : decode cL_setTime 0 = .ok (.aload_n 3, 1) := by decide +kernel
theorem dL_setTime_1 : decode cL_setTime 1 = .ok (.iconst 0, 1) := by decide +kernel
theorem dL_setTime_2 : decode cL_setTime 2 = .ok (.aload_n 0, 1) := by decide +kernel
theorem dL_setTime_3 : decode cL_setTime 3 = .ok (.iload_n 1, 1) := by decide +kernel
theorem dL_setTime_4 : decode cL_setTime 4 = .ok (.iload_n 2, 1) := by decide +kernel
theorem dL_setTime_5 : decode cL_setTime 5 = .ok (.invokevirtual 152, 3) := by decide +kernel
theorem dL_setTime_8 : decode cL_setTime 8 = .ok (.i2l, 1) := by decide +kernel
theorem dL_setTime_9 : decode cL_setTime 9 = .ok (.lastore, 1) := by decide +kernel
theorem dL_setTime_10 : decode cL_setTime 10 = .ok (.goto 11, 3) := by decide +kernel
theorem dL_setTime_13 : decode cL_setTime 13 = .ok (.astore 4, 2) := by decide +kernel
theorem dL_setTime_15 : decode cL_setTime 15 = .ok (.iconst 1, 1) := by decide +kernel
theorem dL_setTime_16 : decode cL_setTime 16 = .ok (.ireturn, 1) := by decide +kernel
theorem dL_setTime_17 : decode cL_setTime 17 = .ok (.astore 4, 2) := by decide +kernel
theorem dL_setTime_19 : decode cL_setTime 19 = .ok (.iconst 2, 1) := by decide +kernel
theorem dL_setTime_20 : decode cL_setTime 20 = .ok (.ireturn, 1) := by decide +kernel
theorem dL_setTime_21 : decode cL_setTime 21 = .ok (.iconst 0, 1) := by decide +kernel
theorem dL_setTime_22 : decode cL_setTime 22 = .ok (.ireturn, 1) := by decide +kernel
theorem dL_shortWires_0 : decode cL_shortWires 0 = .ok (.aload_n 3, 1) := by decide +kernel
theorem dL_shortWires_1 : decode cL_shortWires 1 = .ok (.iconst 0, 1) := by decide +kernel
theorem dL_shortWires_2 : decode cL_shortWires 2 = .ok (.aload_n 0, 1) := by decide +kernel
theorem dL_shortWires_3 : decode cL_shortWires 3 = .ok (.iload_n 1, 1) := by decide +kernel
theorem dL_shortWires_4 : decode cL_shortWires 4 = .ok (.iload_n 2, 1) := by decide +kernel
theorem dL_shortWires_5 : decode cL_shortWires 5 = .ok (.invokevirtual 186, 3) := by decide +kernel
theorem dL_shortWires_8 : decode cL_shortWires 8 = .ok (.i2l, 1) := by decide +kernel
theorem dL_shortWires_9 : decode cL_shortWires 9 = .ok (.lastore, 1) := by decide +kernel
theorem dL_shortWires_10 : decode cL_shortWires 10 = .ok (.goto 11, 3) := by decide +kernel
theorem dL_shortWires_13 : decode cL_shortWires 13 = .ok (.astore 4, 2) := by decide +kernel
theorem dL_shortWires_15 : decode cL_shortWires 15 = .ok (.iconst 1, 1) := by decide +kernel
theorem dL_shortWires_16 : decode cL_shortWires 16 = .ok (.ireturn, 1) := by decide +kernel
theorem dL_shortWires_17 : decode cL_shortWires 17 = .ok (.astore 4, 2) := by decide +kernel
theorem dL_shortWires_19 : decode cL_shortWires 19 = .ok (.iconst 2, 1) := by decide +kernel
theorem dL_shortWires_20 : decode cL_shortWires 20 = .ok (.ireturn, 1) := by decide +kernel
theorem dL_shortWires_21 : decode cL_shortWires 21 = .ok (.iconst 0, 1) := by decide +kernel
theorem dL_shortWires_22 : decode cL_shortWires 22 = .ok (.ireturn, 1) := by decide +kernel
theorem dL_signature_0 : decode cL_signature 0 = .ok (.aload_n 2, 1) := by decide +kernel
theorem dL_signature_1 : decode cL_signature 1 = .ok (.iconst 0, 1) := by decide +kernel
theorem dL_signature_2 : decode cL_signature 2 = .ok (.aload_n 0, 1) := by decide +kernel
theorem dL_signature_3 : decode cL_signature 3 = .ok (.iload_n 1, 1) := by decide +kernel
theorem dL_signature_4 : decode cL_signature 4 = .ok (.invokevirtual 113, 3) := by decide +kernel
theorem dL_signature_7 : decode cL_signature 7 = .ok (.i2l, 1) := by decide +kernel
theorem dL_signature_8 : decode cL_signature 8 = .ok (.lastore, 1) := by decide +kernel
theorem dL_signature_9 : decode cL_signature 9 = .ok (.goto 9, 3) := by decide +kernel
theorem dL_signature_12 : decode cL_signature 12 = .ok (.astore_n 3, 1) := by decide +kernel
theorem dL_signature_13 : decode cL_signature 13 = .ok (.iconst 1, 1) := by decide +kernel
theorem dL_signature_14 : decode cL_signature 14 = .ok (.ireturn, 1) := by decide +kernel
theorem dL_signature_15 : decode cL_signature 15 = .ok (.astore_n 3, 1) := by decide +kernel
theorem dL_signature_16 : decode cL_signature 16 = .ok (.iconst 2, 1) := by decide +kernel
theorem dL_signature_17 : decode cL_signature 17 = .ok (.ireturn, 1) := by decide +kernel
theorem dL_signature_18 : decode cL_signature 18 = .ok (.iconst 0, 1) := by decide +kernel
theorem dL_signature_19 : decode cL_signature 19 = .ok (.ireturn, 1) := by decide +kernel
theorem dL_slow_0 : decode cL_slow 0 = .ok (.aload_n 3, 1) := by decide +kernel
theorem dL_slow_1 : decode cL_slow 1 = .ok (.iconst 0, 1) := by decide +kernel
theorem dL_slow_2 : decode cL_slow 2 = .ok (.aload_n 0, 1) := by decide +kernel
theorem dL_slow_3 : decode cL_slow 3 = .ok (.iload_n 1, 1) := by decide +kernel
theorem dL_slow_4 : decode cL_slow 4 = .ok (.iload_n 2, 1) := by decide +kernel
theorem dL_slow_5 : decode cL_slow 5 = .ok (.invokevirtual 65, 3) := by decide +kernel
theorem dL_slow_8 : decode cL_slow 8 = .ok (.i2l, 1) := by decide +kernel
theorem dL_slow_9 : decode cL_slow 9 = .ok (.lastore, 1) := by decide +kernel
theorem dL_slow_10 : decode cL_slow 10 = .ok (.goto 15, 3) := by decide +kernel
theorem dL_slow_13 : decode cL_slow 13 = .ok (.astore 4, 2) := by decide +kernel
theorem dL_slow_15 : decode cL_slow 15 = .ok (.iconst 1, 1) := by decide +kernel
theorem dL_slow_16 : decode cL_slow 16 = .ok (.ireturn, 1) := by decide +kernel
theorem dL_slow_17 : decode cL_slow 17 = .ok (.astore 4, 2) := by decide +kernel
theorem dL_slow_19 : decode cL_slow 19 = .ok (.iconst 2, 1) := by decide +kernel
theorem dL_slow_20 : decode cL_slow 20 = .ok (.ireturn, 1) := by decide +kernel
theorem dL_slow_21 : decode cL_slow 21 = .ok (.astore 4, 2) := by decide +kernel
theorem dL_slow_23 : decode cL_slow 23 = .ok (.iconst 3, 1) := by decide +kernel
theorem dL_slow_24 : decode cL_slow 24 = .ok (.ireturn, 1) := by decide +kernel
theorem dL_slow_25 : decode cL_slow 25 = .ok (.iconst 0, 1) := by decide +kernel
theorem dL_slow_26 : decode cL_slow 26 = .ok (.ireturn, 1) := by decide +kernel
theorem dL_tally_0 : decode cL_tally 0 = .ok (.aload_n 2, 1) := by decide +kernel
theorem dL_tally_1 : decode cL_tally 1 = .ok (.iconst 0, 1) := by decide +kernel
theorem dL_tally_2 : decode cL_tally 2 = .ok (.aload_n 0, 1) := by decide +kernel
theorem dL_tally_3 : decode cL_tally 3 = .ok (.iload_n 1, 1) := by decide +kernel
theorem dL_tally_4 : decode cL_tally 4 = .ok (.invokevirtual 143, 3) := by decide +kernel
theorem dL_tally_7 : decode cL_tally 7 = .ok (.i2l, 1) := by decide +kernel
theorem dL_tally_8 : decode cL_tally 8 = .ok (.lastore, 1) := by decide +kernel
theorem dL_tally_9 : decode cL_tally 9 = .ok (.goto 9, 3) := by decide +kernel
theorem dL_tally_12 : decode cL_tally 12 = .ok (.astore_n 3, 1) := by decide +kernel
theorem dL_tally_13 : decode cL_tally 13 = .ok (.iconst 1, 1) := by decide +kernel
theorem dL_tally_14 : decode cL_tally 14 = .ok (.ireturn, 1) := by decide +kernel
theorem dL_tally_15 : decode cL_tally 15 = .ok (.astore_n 3, 1) := by decide +kernel
theorem dL_tally_16 : decode cL_tally 16 = .ok (.iconst 2, 1) := by decide +kernel
theorem dL_tally_17 : decode cL_tally 17 = .ok (.ireturn, 1) := by decide +kernel
theorem dL_tally_18 : decode cL_tally 18 = .ok (.iconst 0, 1) := by decide +kernel
theorem dL_tally_19 : decode cL_tally 19 = .ok (.ireturn, 1) := by decide +kernel
theorem dL_testPoint_0 : decode cL_testPoint 0 = .ok (.aload_n 2, 1) := by decide +kernel
theorem dL_testPoint_1 : decode cL_testPoint 1 = .ok (.iconst 0, 1) := by decide +kernel
theorem dL_testPoint_2 : decode cL_testPoint 2 = .ok (.aload_n 0, 1) := by decide +kernel
theorem dL_testPoint_3 : decode cL_testPoint 3 = .ok (.iload_n 1, 1) := by decide +kernel
theorem dL_testPoint_4 : decode cL_testPoint 4 = .ok (.invokevirtual 39, 3) := by decide +kernel
theorem dL_testPoint_7 : decode cL_testPoint 7 = .ok (.i2l, 1) := by decide +kernel
theorem dL_testPoint_8 : decode cL_testPoint 8 = .ok (.lastore, 1) := by decide +kernel
theorem dL_testPoint_9 : decode cL_testPoint 9 = .ok (.goto 9, 3) := by decide +kernel
theorem dL_testPoint_12 : decode cL_testPoint 12 = .ok (.astore_n 3, 1) := by decide +kernel
theorem dL_testPoint_13 : decode cL_testPoint 13 = .ok (.iconst 1, 1) := by decide +kernel
theorem dL_testPoint_14 : decode cL_testPoint 14 = .ok (.ireturn, 1) := by decide +kernel
theorem dL_testPoint_15 : decode cL_testPoint 15 = .ok (.astore_n 3, 1) := by decide +kernel
theorem dL_testPoint_16 : decode cL_testPoint 16 = .ok (.iconst 2, 1) := by decide +kernel
theorem dL_testPoint_17 : decode cL_testPoint 17 = .ok (.ireturn, 1) := by decide +kernel
theorem dL_testPoint_18 : decode cL_testPoint 18 = .ok (.iconst 0, 1) := by decide +kernel
theorem dL_testPoint_19 : decode cL_testPoint 19 = .ok (.ireturn, 1) := by decide +kernel
theorem dL_tie_0 : decode cL_tie 0 = .ok (.aload_n 2, 1) := by decide +kernel
theorem dL_tie_1 : decode cL_tie 1 = .ok (.iconst 0, 1) := by decide +kernel
theorem dL_tie_2 : decode cL_tie 2 = .ok (.aload_n 0, 1) := by decide +kernel
theorem dL_tie_3 : decode cL_tie 3 = .ok (.iload_n 1, 1) := by decide +kernel
theorem dL_tie_4 : decode cL_tie 4 = .ok (.invokevirtual 91, 3) := by decide +kernel
theorem dL_tie_7 : decode cL_tie 7 = .ok (.i2l, 1) := by decide +kernel
theorem dL_tie_8 : decode cL_tie 8 = .ok (.lastore, 1) := by decide +kernel
theorem dL_tie_9 : decode cL_tie 9 = .ok (.goto 12, 3) := by decide +kernel
theorem dL_tie_12 : decode cL_tie 12 = .ok (.astore_n 3, 1) := by decide +kernel
theorem dL_tie_13 : decode cL_tie 13 = .ok (.iconst 1, 1) := by decide +kernel
theorem dL_tie_14 : decode cL_tie 14 = .ok (.ireturn, 1) := by decide +kernel
theorem dL_tie_15 : decode cL_tie 15 = .ok (.astore_n 3, 1) := by decide +kernel
theorem dL_tie_16 : decode cL_tie 16 = .ok (.iconst 2, 1) := by decide +kernel
theorem dL_tie_17 : decode cL_tie 17 = .ok (.ireturn, 1) := by decide +kernel
theorem dL_tie_18 : decode cL_tie 18 = .ok (.astore_n 3, 1) := by decide +kernel
theorem dL_tie_19 : decode cL_tie 19 = .ok (.iconst 3, 1) := by decide +kernel
theorem dL_tie_20 : decode cL_tie 20 = .ok (.ireturn, 1) := by decide +kernel
theorem dL_tie_21 : decode cL_tie 21 = .ok (.iconst 0, 1) := by decide +kernel
theorem dL_tie_22 : decode cL_tie 22 = .ok (.ireturn, 1) := by decide +kernel
theorem dL_value_0 : decode cL_value 0 = .ok (.aload_n 3, 1) := by decide +kernel
theorem dL_value_1 : decode cL_value 1 = .ok (.iconst 0, 1) := by decide +kernel
theorem dL_value_2 : decode cL_value 2 = .ok (.aload_n 0, 1) := by decide +kernel
theorem dL_value_3 : decode cL_value 3 = .ok (.iload_n 1, 1) := by decide +kernel
theorem dL_value_4 : decode cL_value 4 = .ok (.iload_n 2, 1) := by decide +kernel
theorem dL_value_5 : decode cL_value 5 = .ok (.invokevirtual 46, 3) := by decide +kernel
theorem dL_value_8 : decode cL_value 8 = .ok (.i2l, 1) := by decide +kernel
theorem dL_value_9 : decode cL_value 9 = .ok (.lastore, 1) := by decide +kernel
theorem dL_value_10 : decode cL_value 10 = .ok (.goto 7, 3) := by decide +kernel
theorem dL_value_13 : decode cL_value 13 = .ok (.astore 4, 2) := by decide +kernel
theorem dL_value_15 : decode cL_value 15 = .ok (.iconst 1, 1) := by decide +kernel
theorem dL_value_16 : decode cL_value 16 = .ok (.ireturn, 1) := by decide +kernel
theorem dL_value_17 : decode cL_value 17 = .ok (.iconst 0, 1) := by decide +kernel
theorem dL_value_18 : decode cL_value 18 = .ok (.ireturn, 1) := by decide +kernel
theorem dL_ways_0 : decode cL_ways 0 = .ok (.aload_n 2, 1) := by decide +kernel
theorem dL_ways_1 : decode cL_ways 1 = .ok (.iconst 0, 1) := by decide +kernel
theorem dL_ways_2 : decode cL_ways 2 = .ok (.aload_n 0, 1) := by decide +kernel
theorem dL_ways_3 : decode cL_ways 3 = .ok (.iload_n 1, 1) := by decide +kernel
theorem dL_ways_4 : decode cL_ways 4 = .ok (.invokevirtual 122, 3) := by decide +kernel
theorem dL_ways_7 : decode cL_ways 7 = .ok (.i2l, 1) := by decide +kernel
theorem dL_ways_8 : decode cL_ways 8 = .ok (.lastore, 1) := by decide +kernel
theorem dL_ways_9 : decode cL_ways 9 = .ok (.goto 9, 3) := by decide +kernel
theorem dL_ways_12 : decode cL_ways 12 = .ok (.astore_n 3, 1) := by decide +kernel
theorem dL_ways_13 : decode cL_ways 13 = .ok (.iconst 1, 1) := by decide +kernel
theorem dL_ways_14 : decode cL_ways 14 = .ok (.ireturn, 1) := by decide +kernel
theorem dL_ways_15 : decode cL_ways 15 = .ok (.astore_n 3, 1) := by decide +kernel
theorem dL_ways_16 : decode cL_ways 16 = .ok (.iconst 2, 1) := by decide +kernel
theorem dL_ways_17 : decode cL_ways 17 = .ok (.ireturn, 1) := by decide +kernel
theorem dL_ways_18 : decode cL_ways 18 = .ok (.iconst 0, 1) := by decide +kernel
theorem dL_ways_19 : decode cL_ways 19 = .ok (.ireturn, 1) := by decide +kernel
theorem dL_weight_0 : decode cL_weight 0 = .ok (.aload_n 2, 1) := by decide +kernel
theorem dL_weight_1 : decode cL_weight 1 = .ok (.iconst 0, 1) := by decide +kernel
theorem dL_weight_2 : decode cL_weight 2 = .ok (.aload_n 0, 1) := by decide +kernel
theorem dL_weight_3 : decode cL_weight 3 = .ok (.iload_n 1, 1) := by decide +kernel
theorem dL_weight_4 : decode cL_weight 4 = .ok (.invokevirtual 119, 3) := by decide +kernel
theorem dL_weight_7 : decode cL_weight 7 = .ok (.i2l, 1) := by decide +kernel
theorem dL_weight_8 : decode cL_weight 8 = .ok (.lastore, 1) := by decide +kernel
theorem dL_weight_9 : decode cL_weight 9 = .ok (.goto 9, 3) := by decide +kernel
theorem dL_weight_12 : decode cL_weight 12 = .ok (.astore_n 3, 1) := by decide +kernel
theorem dL_weight_13 : decode cL_weight 13 = .ok (.iconst 1, 1) := by decide +kernel
theorem dL_weight_14 : decode cL_weight 14 = .ok (.ireturn, 1) := by decide +kernel
theorem dL_weight_15 : decode cL_weight 15 = .ok (.astore_n 3, 1) := by decide +kernel
theorem dL_weight_16 : decode cL_weight 16 = .ok (.iconst 2, 1) := by decide +kernel
theorem dL_weight_17 : decode cL_weight 17 = .ok (.ireturn, 1) := by decide +kernel
theorem dL_weight_18 : decode cL_weight 18 = .ok (.iconst 0, 1) := by decide +kernel
theorem dL_weight_19 : decode cL_weight 19 = .ok (.ireturn, 1) := by decide +kernel
theorem dL_wrong_0 : decode cL_wrong 0 = .ok (.aload_n 2, 1) := by decide +kernel
theorem dL_wrong_1 : decode cL_wrong 1 = .ok (.iconst 0, 1) := by decide +kernel
theorem dL_wrong_2 : decode cL_wrong 2 = .ok (.aload_n 0, 1) := by decide +kernel
theorem dL_wrong_3 : decode cL_wrong 3 = .ok (.iload_n 1, 1) := by decide +kernel
theorem dL_wrong_4 : decode cL_wrong 4 = .ok (.invokevirtual 137, 3) := by decide +kernel
theorem dL_wrong_7 : decode cL_wrong 7 = .ok (.i2l, 1) := by decide +kernel
theorem dL_wrong_8 : decode cL_wrong 8 = .ok (.lastore, 1) := by decide +kernel
theorem dL_wrong_9 : decode cL_wrong 9 = .ok (.goto 9, 3) := by decide +kernel
theorem dL_wrong_12 : decode cL_wrong 12 = .ok (.astore_n 3, 1) := by decide +kernel
theorem dL_wrong_13 : decode cL_wrong 13 = .ok (.iconst 1, 1) := by decide +kernel
theorem dL_wrong_14 : decode cL_wrong 14 = .ok (.ireturn, 1) := by decide +kernel
theorem dL_wrong_15 : decode cL_wrong 15 = .ok (.astore_n 3, 1) := by decide +kernel
theorem dL_wrong_16 : decode cL_wrong 16 = .ok (.iconst 2, 1) := by decide +kernel
theorem dL_wrong_17 : decode cL_wrong 17 = .ok (.ireturn, 1) := by decide +kernel
theorem dL_wrong_18 : decode cL_wrong 18 = .ok (.iconst 0, 1) := by decide +kernel
theorem dL_wrong_19 : decode cL_wrong 19 = .ok (.ireturn, 1) := by decide +kernel
set_option maxHeartbeats 4000000 in
set_option maxRecDepth 100000 in
theorem k_L_record (l : Launch) (hfl : l.stackTraces = false) (D : va_G) (g : Nat → ClassId) (z0 sz : Nat) (a : Nat → Nat) (h0 : Nat) : Met l yL_record (.codeWith yL_record cL_record 3 (some .int) [(0, 8, 11, 86)] :: TG) (rmk 7 1 6 131) (va_Pc [.ref (a 0), .ref h0] (PP D g z0 sz [(h0, .inl (g 1, 1, .inr (.inl (fun _ => 0)))), ((a 0), f_x a), ((a 8), f_chip a), ((a 3), f_rows a), ((a 4), f_words a), ((a 38), .inl (g 1, 12, .inr (.inl (fun _ => 0)))), ((a 39), .inl (g 1, 12, .inr (.inl (fun _ => 0)))), ((a 1), f_net a), ((a 2), f_book a)])) (va_Qi (fun (r : Int32) (u : Unit) => (r = 1) ∧ True) (fun (u : Unit) (t : State) => va_P D vwCl [(h0, .inl (g 1, 1, .inr (.inl (fun _ => 0))))] t.heap ∧ va_D (va_A [(h0, .inl (g 1, 1, .inr (.inl (fun _ => 0)))), ((a 0), f_x a), ((a 8), f_chip a), ((a 3), f_rows a), ((a 4), f_words a), ((a 38), .inl (g 1, 12, .inr (.inl (fun _ => 0)))), ((a 39), .inl (g 1, 12, .inr (.inl (fun _ => 0)))), ((a 1), f_net a), ((a 2), f_book a)] sz) [(h0, .inl (g 1, 1, .inr (.inl (fun _ => 0))))]) (va_A [(h0, .inl (g 1, 1, .inr (.inl (fun _ => 0)))), ((a 0), f_x a), ((a 8), f_chip a), ((a 3), f_rows a), ((a 4), f_words a), ((a 38), .inl (g 1, 12, .inr (.inl (fun _ => 0)))), ((a 39), .inl (g 1, 12, .inr (.inl (fun _ => 0)))), ((a 1), f_net a), ((a 2), f_book a)] sz)) 1 6 (va_A [(h0, .inl (g 1, 1, .inr (.inl (fun _ => 0)))), ((a 0), f_x a), ((a 8), f_chip a), ((a 3), f_rows a), ((a 4), f_words a), ((a 38), .inl (g 1, 12, .inr (.inl (fun _ => 0)))), ((a 39), .inl (g 1, 12, .inr (.inl (fun _ => 0)))), ((a 1), f_net a), ((a 2), f_book a)] sz) := by
  refine metW0 (cc := cL_record) (n := 3) (hh := [(0, 8, 11, 86)]) (by decide) (Nat.le_of_ble_eq_true rfl) ?_
  intro p e s m args below meth c hx hb hr hml htab hown ht hlocks hnm hP0 hD0 hK hZ hsz hz ls hl
  subst hsz
  have hA : ∀ q : Nat, s.heap.size ≤ q → va_A [(h0, .inl (g 1, 1, .inr (.inl (fun _ => 0)))), ((a 0), f_x a), ((a 8), f_chip a), ((a 3), f_rows a), ((a 4), f_words a), ((a 38), .inl (g 1, 12, .inr (.inl (fun _ => 0)))), ((a 39), .inl (g 1, 12, .inr (.inl (fun _ => 0)))), ((a 1), f_net a), ((a 2), f_book a)] s.heap.size q := Anw
  have hAz : ∀ q, va_A [(h0, .inl (g 1, 1, .inr (.inl (fun _ => 0)))), ((a 0), f_x a), ((a 8), f_chip a), ((a 3), f_rows a), ((a 4), f_words a), ((a 38), .inl (g 1, 12, .inr (.inl (fun _ => 0)))), ((a 39), .inl (g 1, 12, .inr (.inl (fun _ => 0)))), ((a 1), f_net a), ((a 2), f_book a)] s.heap.size q → z0 ≤ q := Awz hz hD0
  have hS : va_S (va_A [(h0, .inl (g 1, 1, .inr (.inl (fun _ => 0)))), ((a 0), f_x a), ((a 8), f_chip a), ((a 3), f_rows a), ((a 4), f_words a), ((a 38), .inl (g 1, 12, .inr (.inl (fun _ => 0)))), ((a 39), .inl (g 1, 12, .inr (.inl (fun _ => 0)))), ((a 1), f_net a), ((a 2), f_book a)] s.heap.size) s.heap s.heap [] := va_S.rf
  have hD : va_D (va_A [(h0, .inl (g 1, 1, .inr (.inl (fun _ => 0)))), ((a 0), f_x a), ((a 8), f_chip a), ((a 3), f_rows a), ((a 4), f_words a), ((a 38), .inl (g 1, 12, .inr (.inl (fun _ => 0)))), ((a 39), .inl (g 1, 12, .inr (.inl (fun _ => 0)))), ((a 1), f_net a), ((a 2), f_book a)] s.heap.size) [(h0, .inl (g 1, 1, .inr (.inl (fun _ => 0)))), ((a 0), f_x a), ((a 8), f_chip a), ((a 3), f_rows a), ((a 4), f_words a), ((a 38), .inl (g 1, 12, .inr (.inl (fun _ => 0)))), ((a 39), .inl (g 1, 12, .inr (.inl (fun _ => 0)))), ((a 1), f_net a), ((a 2), f_book a)] := hD0.self
  have hP : va_P D vwCl [(h0, .inl (g 1, 1, .inr (.inl (fun _ => 0)))), ((a 0), f_x a), ((a 8), f_chip a), ((a 3), f_rows a), ((a 4), f_words a), ((a 38), .inl (g 1, 12, .inr (.inl (fun _ => 0)))), ((a 39), .inl (g 1, 12, .inr (.inl (fun _ => 0)))), ((a 1), f_net a), ((a 2), f_book a)] s.heap := hP0
  have hl : lv_has ls 3 [(0, .ref (a 0)), (1, .ref h0)] := hl
  refine lv_aload_n hx hb dL_record_0 rfl (lv_at hl 1 rfl) ?_
  refine lv_iconst (v := 0) hx hb dL_record_1 (by decide) ?_
  refine lv_aload_n hx hb dL_record_2 rfl (lv_at hl 0 rfl) ?_
  have hPc : va_P D vwCl [((a 0), f_x a), ((a 8), f_chip a), ((a 3), f_rows a), ((a 4), f_words a), ((a 38), .inl (g 1, 12, .inr (.inl (fun _ => 0)))), ((a 39), .inl (g 1, 12, .inr (.inl (fun _ => 0)))), ((a 1), f_net a), ((a 2), f_book a)] _ := hP.sub (ws' := [((a 0), f_x a), ((a 8), f_chip a), ((a 3), f_rows a), ((a 4), f_words a), ((a 38), .inl (g 1, 12, .inr (.inl (fun _ => 0)))), ((a 39), .inl (g 1, 12, .inr (.inl (fun _ => 0)))), ((a 1), f_net a), ((a 2), f_book a)]) [1, 2, 3, 4, 5, 6, 7, 8] rfl
  have hDc : va_D (fun q => z0 ≤ q) [((a 0), f_x a), ((a 8), f_chip a), ((a 3), f_rows a), ((a 4), f_words a), ((a 38), .inl (g 1, 12, .inr (.inl (fun _ => 0)))), ((a 39), .inl (g 1, 12, .inr (.inl (fun _ => 0)))), ((a 1), f_net a), ((a 2), f_book a)] := (hD.to hAz).pick (ws' := [((a 0), f_x a), ((a 8), f_chip a), ((a 3), f_rows a), ((a 4), f_words a), ((a 38), .inl (g 1, 12, .inr (.inl (fun _ => 0)))), ((a 39), .inl (g 1, 12, .inr (.inl (fun _ => 0)))), ((a 1), f_net a), ((a 2), f_book a)]) [1, 2, 3, 4, 5, 6, 7, 8] (by decide) rfl
  have hFc := va_free (wc := [((a 0), f_x a), ((a 8), f_chip a), ((a 3), f_rows a), ((a 4), f_words a), ((a 38), .inl (g 1, 12, .inr (.inl (fun _ => 0)))), ((a 39), .inl (g 1, 12, .inr (.inl (fun _ => 0)))), ((a 1), f_net a), ((a 2), f_book a)]) hD hS hA [1, 2, 3, 4, 5, 6, 7, 8] rfl
  refine vx_calli (vx_runV (As := []) (rest := [.int 0, .ref h0]) ⟨hx, hb, hml, hown, ht⟩ (k_X11_record l hfl D g z0 _ a) (cwV 0 ht (gV w_700 w_702 w_703 w_31 w_701) rfl rfl rfl (by decide +kernel) (le2 rfl rfl)) ⟨PP.blind, va_recv hK.1 hP (ci := 17) (q0 := 1) rfl rfl, PP.mk' hK hZ hz hAz hS hPc hDc⟩ rfl rfl hl.1 rfl (lv_room (Nat.le_of_ble_eq_true rfl)) dL_record_3 (le2 rfl rfl)) hS (fun q _ h => hFc q h) hFc (fun q _ h => hFc q h) (fun E ce q9 u t H locs ht1 hvm hw hB hz1 hk1 hS hcell hv9 hcl => ?_) (fun r u t H locs ht1 hvm hw hB hz1 hk1 hS => ?_)
  · obtain ⟨hP, hD⟩ := va_join (wr := [(h0, .inl (g 1, 1, .inr (.inl (fun _ => 0))))]) (w1 := []) hP hD [1, 2, 3, 4, 5, 6, 7, 8] [0] rfl rfl (by decide) (by decide) hk1 hFc nil_P nil_D
    have hP : va_P D vwCl [(h0, .inl (g 1, 1, .inr (.inl (fun _ => 0))))] H := hP
    have hD : va_D (va_A [(h0, .inl (g 1, 1, .inr (.inl (fun _ => 0)))), ((a 0), f_x a), ((a 8), f_chip a), ((a 3), f_rows a), ((a 4), f_words a), ((a 38), .inl (g 1, 12, .inr (.inl (fun _ => 0)))), ((a 39), .inl (g 1, 12, .inr (.inl (fun _ => 0)))), ((a 1), f_net a), ((a 2), f_book a)] s.heap.size) [(h0, .inl (g 1, 1, .inr (.inl (fun _ => 0))))] := hD
    obtain ⟨rfl, hB⟩ := hB
    refine vx_catch hown [] ⟨0, 8, 11, 86⟩ [] (htab.trans rfl) (fun _ h9 => absurd h9 List.not_mem_nil) (by decide) (by decide) (ht _ w_568) (hK.2.2.use w_569) hcell hv9 hcl ?_
    refine W.eq (g2 := F0 m 11 ls [.ref q9]) rfl ?_
    refine lv_astore_n (lv' := [(2, .ref q9), (0, .ref (a 0)), (1, .ref h0)]) hx hb dL_record_11 rfl hl (by decide) rfl (fun ls hl => ?_)
    refine lv_iconst (v := 1) hx hb dL_record_12 (by decide) ?_
    have hP9 := hP.sub (ws' := [(h0, .inl (g 1, 1, .inr (.inl (fun _ => 0))))]) [0] rfl
    have hD9 := hD.sub (ws' := [(h0, .inl (g 1, 1, .inr (.inl (fun _ => 0))))]) [0] (by decide) rfl
    refine W.widen (k := 1) (n := 6) (Nat.le_of_ble_eq_true rfl) (Nat.le_of_ble_eq_true rfl) ?_
    exact W.iret (v := 1) hx hb hr (fun t ht9 hW9 => ⟨⟨1, (), rfl, ⟨rfl, trivial⟩, ⟨(by rw [ht9]; exact hP9), hD9⟩⟩, hS.F ht9⟩) hS.2.2 dL_record_13 hlocks
  · exact hw.elim
set_option maxHeartbeats 4000000 in
set_option maxRecDepth 100000 in
theorem k_L_repair (l : Launch) (hfl : l.stackTraces = false) (D : va_G) (g : Nat → ClassId) (z0 sz : Nat) (a : Nat → Nat) (p0 : Int32) (p1 : Int32) (h0 : Nat) : Met l yL_repair (.codeWith yL_repair cL_repair 5 (some .int) [(0, 10, 13, 24), (0, 10, 17, 86)] :: TG) (rmk 8 2 12 126) (va_Pc [.ref (a 0), .int p0, .int p1, .ref h0] (PP D g z0 sz [(h0, .inl (g 1, 1, .inr (.inl (fun _ => 0)))), ((a 0), f_x a), ((a 9), f_memory a), ((a 60), .inl (g 0, 8, .inl (fun _ => 0)))])) (va_Qi (fun (r : Int32) (u : Unit) => ((r = 1) ∧ ((p0 < 0) ∨ ((¬ p0 < 0) ∧ (¬ p0 ≤ 8)) ∨ ((¬ p0 < 0) ∧ (p0 ≤ 8) ∧ (p1 < 0)) ∨ ((¬ p0 < 0) ∧ (p0 ≤ 8) ∧ (¬ p1 < 0) ∧ (¬ p1 ≤ 8)))) ∨ ((r = 0) ∧ ((¬ p0 < 0) ∧ (p0 ≤ 8) ∧ (¬ p1 < 0) ∧ (p1 ≤ 8)))) (fun (u : Unit) (t : State) => va_P D vwCl [(h0, .inl (g 1, 1, .inr (.inl (fun _ => 0))))] t.heap ∧ va_D (va_A [(h0, .inl (g 1, 1, .inr (.inl (fun _ => 0)))), ((a 0), f_x a), ((a 9), f_memory a), ((a 60), .inl (g 0, 8, .inl (fun _ => 0)))] sz) [(h0, .inl (g 1, 1, .inr (.inl (fun _ => 0))))]) (va_A [(h0, .inl (g 1, 1, .inr (.inl (fun _ => 0)))), ((a 0), f_x a), ((a 9), f_memory a), ((a 60), .inl (g 0, 8, .inl (fun _ => 0)))] sz)) 2 12 (va_A [(h0, .inl (g 1, 1, .inr (.inl (fun _ => 0)))), ((a 0), f_x a), ((a 9), f_memory a), ((a 60), .inl (g 0, 8, .inl (fun _ => 0)))] sz) := by
  refine metW0 (cc := cL_repair) (n := 5) (hh := [(0, 10, 13, 24), (0, 10, 17, 86)]) (by decide) (Nat.le_of_ble_eq_true rfl) ?_
  intro p e s m args below meth c hx hb hr hml htab hown ht hlocks hnm hP0 hD0 hK hZ hsz hz ls hl
  subst hsz
  have hA : ∀ q : Nat, s.heap.size ≤ q → va_A [(h0, .inl (g 1, 1, .inr (.inl (fun _ => 0)))), ((a 0), f_x a), ((a 9), f_memory a), ((a 60), .inl (g 0, 8, .inl (fun _ => 0)))] s.heap.size q := Anw
  have hAz : ∀ q, va_A [(h0, .inl (g 1, 1, .inr (.inl (fun _ => 0)))), ((a 0), f_x a), ((a 9), f_memory a), ((a 60), .inl (g 0, 8, .inl (fun _ => 0)))] s.heap.size q → z0 ≤ q := Awz hz hD0
  have hS : va_S (va_A [(h0, .inl (g 1, 1, .inr (.inl (fun _ => 0)))), ((a 0), f_x a), ((a 9), f_memory a), ((a 60), .inl (g 0, 8, .inl (fun _ => 0)))] s.heap.size) s.heap s.heap [] := va_S.rf
  have hD : va_D (va_A [(h0, .inl (g 1, 1, .inr (.inl (fun _ => 0)))), ((a 0), f_x a), ((a 9), f_memory a), ((a 60), .inl (g 0, 8, .inl (fun _ => 0)))] s.heap.size) [(h0, .inl (g 1, 1, .inr (.inl (fun _ => 0)))), ((a 0), f_x a), ((a 9), f_memory a), ((a 60), .inl (g 0, 8, .inl (fun _ => 0)))] := hD0.self
  have hP : va_P D vwCl [(h0, .inl (g 1, 1, .inr (.inl (fun _ => 0)))), ((a 0), f_x a), ((a 9), f_memory a), ((a 60), .inl (g 0, 8, .inl (fun _ => 0)))] s.heap := hP0
  have hl : lv_has ls 5 [(0, .ref (a 0)), (1, .int p0), (2, .int p1), (3, .ref h0)] := hl
  refine lv_aload_n hx hb dL_repair_0 rfl (lv_at hl 3 rfl) ?_
  refine lv_iconst (v := 0) hx hb dL_repair_1 (by decide) ?_
  refine lv_aload_n hx hb dL_repair_2 rfl (lv_at hl 0 rfl) ?_
  refine lv_iload_n hx hb dL_repair_3 rfl (lv_at hl 1 rfl) ?_
  refine lv_iload_n hx hb dL_repair_4 rfl (lv_at hl 2 rfl) ?_
  have hPc : va_P D vwCl [((a 0), f_x a), ((a 9), f_memory a), ((a 60), .inl (g 0, 8, .inl (fun _ => 0)))] _ := hP.sub (ws' := [((a 0), f_x a), ((a 9), f_memory a), ((a 60), .inl (g 0, 8, .inl (fun _ => 0)))]) [1, 2, 3] rfl
  have hDc : va_D (fun q => z0 ≤ q) [((a 0), f_x a), ((a 9), f_memory a), ((a 60), .inl (g 0, 8, .inl (fun _ => 0)))] := (hD.to hAz).pick (ws' := [((a 0), f_x a), ((a 9), f_memory a), ((a 60), .inl (g 0, 8, .inl (fun _ => 0)))]) [1, 2, 3] (by decide) rfl
  have hFc := AnA (ws := [(h0, .inl (g 1, 1, .inr (.inl (fun _ => 0)))), ((a 0), f_x a), ((a 9), f_memory a), ((a 60), .inl (g 0, 8, .inl (fun _ => 0)))]) hS.1
  refine vx_calli (vx_runV (As := [.int p0, .int p1]) (rest := [.int 0, .ref h0]) ⟨hx, hb, hml, hown, ht⟩ (k_X11_repair l hfl D g z0 _ a p0 p1) (cwV 2 ht (gV w_704 w_706 w_707 w_31 w_705) rfl rfl rfl (by decide +kernel) (le2 rfl rfl)) ⟨PP.blind, va_recv hK.1 hP (ci := 17) (q0 := 1) rfl rfl, PP.mk' hK hZ hz hAz hS hPc hDc⟩ rfl rfl hl.1 rfl (lv_room (Nat.le_of_ble_eq_true rfl)) dL_repair_5 (le2 rfl rfl)) hS (fun q _ h => hFc q h) hFc (fun q _ h => hFc q h) (fun E ce q9 u t H locs ht1 hvm hw hB hz1 hk1 hS hcell hv9 hcl => ?_) (fun r u t H locs ht1 hvm hw hB hz1 hk1 hS => ?_)
  · have hP := ro1 hP hk1
    obtain ⟨rfl, hB⟩ := hB
    rcases hB with hB | hB | hB | hB
    · have c_1 := hB
      refine vx_catch hown [] ⟨0, 10, 13, 24⟩ [⟨0, 10, 17, 86⟩] (htab.trans rfl) (fun _ h9 => absurd h9 List.not_mem_nil) (by decide) (by decide) (ht _ w_540) (hK.2.2.use w_541) hcell hv9 hcl ?_
      refine W.eq (g2 := F0 m 13 ls [.ref q9]) rfl ?_
      refine lv_astore (lv' := [(4, .ref q9), (0, .ref (a 0)), (1, .int p0), (2, .int p1), (3, .ref h0)]) hx hb dL_repair_13 hl (by decide) rfl (fun ls hl => ?_)
      refine lv_iconst (v := 1) hx hb dL_repair_15 (by decide) ?_
      have hP9 := hP.sub (ws' := [(h0, .inl (g 1, 1, .inr (.inl (fun _ => 0))))]) [0] rfl
      have hD9 := hD.sub (ws' := [(h0, .inl (g 1, 1, .inr (.inl (fun _ => 0))))]) [0] (by decide) rfl
      refine W.widen (k := 2) (n := 12) (Nat.le_of_ble_eq_true rfl) (Nat.le_of_ble_eq_true rfl) ?_
      exact W.iret (v := 1) hx hb hr (fun t ht9 hW9 => ⟨⟨1, (), rfl, (Or.inl ⟨rfl, (Or.inl c_1)⟩), ⟨(by rw [ht9]; exact hP9), hD9⟩⟩, hS.F ht9⟩) hS.2.2 dL_repair_16 hlocks
    · obtain ⟨c_2, c_3⟩ := hB
      refine vx_catch hown [] ⟨0, 10, 13, 24⟩ [⟨0, 10, 17, 86⟩] (htab.trans rfl) (fun _ h9 => absurd h9 List.not_mem_nil) (by decide) (by decide) (ht _ w_540) (hK.2.2.use w_541) hcell hv9 hcl ?_
      refine W.eq (g2 := F0 m 13 ls [.ref q9]) rfl ?_
      refine lv_astore (lv' := [(4, .ref q9), (0, .ref (a 0)), (1, .int p0), (2, .int p1), (3, .ref h0)]) hx hb dL_repair_13 hl (by decide) rfl (fun ls hl => ?_)
      refine lv_iconst (v := 1) hx hb dL_repair_15 (by decide) ?_
      have hP9 := hP.sub (ws' := [(h0, .inl (g 1, 1, .inr (.inl (fun _ => 0))))]) [0] rfl
      have hD9 := hD.sub (ws' := [(h0, .inl (g 1, 1, .inr (.inl (fun _ => 0))))]) [0] (by decide) rfl
      refine W.widen (k := 2) (n := 12) (Nat.le_of_ble_eq_true rfl) (Nat.le_of_ble_eq_true rfl) ?_
      exact W.iret (v := 1) hx hb hr (fun t ht9 hW9 => ⟨⟨1, (), rfl, (Or.inl ⟨rfl, (Or.inr (Or.inl ⟨c_2, c_3⟩))⟩), ⟨(by rw [ht9]; exact hP9), hD9⟩⟩, hS.F ht9⟩) hS.2.2 dL_repair_16 hlocks
    · obtain ⟨c_4, c_5, c_6⟩ := hB
      refine vx_catch hown [] ⟨0, 10, 13, 24⟩ [⟨0, 10, 17, 86⟩] (htab.trans rfl) (fun _ h9 => absurd h9 List.not_mem_nil) (by decide) (by decide) (ht _ w_540) (hK.2.2.use w_541) hcell hv9 hcl ?_
      refine W.eq (g2 := F0 m 13 ls [.ref q9]) rfl ?_
      refine lv_astore (lv' := [(4, .ref q9), (0, .ref (a 0)), (1, .int p0), (2, .int p1), (3, .ref h0)]) hx hb dL_repair_13 hl (by decide) rfl (fun ls hl => ?_)
      refine lv_iconst (v := 1) hx hb dL_repair_15 (by decide) ?_
      have hP9 := hP.sub (ws' := [(h0, .inl (g 1, 1, .inr (.inl (fun _ => 0))))]) [0] rfl
      have hD9 := hD.sub (ws' := [(h0, .inl (g 1, 1, .inr (.inl (fun _ => 0))))]) [0] (by decide) rfl
      refine W.widen (k := 2) (n := 12) (Nat.le_of_ble_eq_true rfl) (Nat.le_of_ble_eq_true rfl) ?_
      exact W.iret (v := 1) hx hb hr (fun t ht9 hW9 => ⟨⟨1, (), rfl, (Or.inl ⟨rfl, (Or.inr (Or.inr (Or.inl ⟨c_4, c_5, c_6⟩)))⟩), ⟨(by rw [ht9]; exact hP9), hD9⟩⟩, hS.F ht9⟩) hS.2.2 dL_repair_16 hlocks
    · obtain ⟨c_7, c_8, c_9, c_10⟩ := hB
      refine vx_catch hown [] ⟨0, 10, 13, 24⟩ [⟨0, 10, 17, 86⟩] (htab.trans rfl) (fun _ h9 => absurd h9 List.not_mem_nil) (by decide) (by decide) (ht _ w_540) (hK.2.2.use w_541) hcell hv9 hcl ?_
      refine W.eq (g2 := F0 m 13 ls [.ref q9]) rfl ?_
      refine lv_astore (lv' := [(4, .ref q9), (0, .ref (a 0)), (1, .int p0), (2, .int p1), (3, .ref h0)]) hx hb dL_repair_13 hl (by decide) rfl (fun ls hl => ?_)
      refine lv_iconst (v := 1) hx hb dL_repair_15 (by decide) ?_
      have hP9 := hP.sub (ws' := [(h0, .inl (g 1, 1, .inr (.inl (fun _ => 0))))]) [0] rfl
      have hD9 := hD.sub (ws' := [(h0, .inl (g 1, 1, .inr (.inl (fun _ => 0))))]) [0] (by decide) rfl
      refine W.widen (k := 2) (n := 12) (Nat.le_of_ble_eq_true rfl) (Nat.le_of_ble_eq_true rfl) ?_
      exact W.iret (v := 1) hx hb hr (fun t ht9 hW9 => ⟨⟨1, (), rfl, (Or.inl ⟨rfl, (Or.inr (Or.inr (Or.inr ⟨c_7, c_8, c_9, c_10⟩)))⟩), ⟨(by rw [ht9]; exact hP9), hD9⟩⟩, hS.F ht9⟩) hS.2.2 dL_repair_16 hlocks
  · obtain ⟨rfl, hw⟩ := hw
    obtain ⟨c_11, c_12, c_13, c_14⟩ := hw
    have hP := ro1 hP hk1
    refine lv_i2l (v := 0) hx hb dL_repair_8 (by decide) ?_
    refine va_last hx hb hK.1 hP hD hS 0 1 rfl rfl (by unfold vp_in; decide) dL_repair_9 (fun H locs hP hD hS => ?_)
    have hP : va_P D vwCl [(h0, .inl (g 1, 1, .inr (.inl (vp_updL (fun _ => 0) (0 : Int32).toNatClampNeg 0)))), ((a 0), f_x a), ((a 9), f_memory a), ((a 60), .inl (g 0, 8, .inl (fun _ => 0)))] H := hP
    have hD : va_D (va_A [(h0, .inl (g 1, 1, .inr (.inl (fun _ => 0)))), ((a 0), f_x a), ((a 9), f_memory a), ((a 60), .inl (g 0, 8, .inl (fun _ => 0)))] s.heap.size) [(h0, .inl (g 1, 1, .inr (.inl (vp_updL (fun _ => 0) (0 : Int32).toNatClampNeg 0)))), ((a 0), f_x a), ((a 9), f_memory a), ((a 60), .inl (g 0, 8, .inl (fun _ => 0)))] := hD
    have hP := one_up (v := 0) hP 0 rfl rfl
    have hD := va_D.set (p := 0) (e := .inl (g 1, 1, .inr (.inl (fun _ => 0)))) hD rfl
    have hP : va_P D vwCl [(h0, .inl (g 1, 1, .inr (.inl (fun _ => 0)))), ((a 0), f_x a), ((a 9), f_memory a), ((a 60), .inl (g 0, 8, .inl (fun _ => 0)))] H := hP
    have hD : va_D (va_A [(h0, .inl (g 1, 1, .inr (.inl (fun _ => 0)))), ((a 0), f_x a), ((a 9), f_memory a), ((a 60), .inl (g 0, 8, .inl (fun _ => 0)))] s.heap.size) [(h0, .inl (g 1, 1, .inr (.inl (fun _ => 0)))), ((a 0), f_x a), ((a 9), f_memory a), ((a 60), .inl (g 0, 8, .inl (fun _ => 0)))] := hD
    refine lv_goto (tgt := 21) hx hb dL_repair_10 (by decide) ?_
    refine lv_iconst (v := 0) hx hb dL_repair_21 (by decide) ?_
    have hP9 := hP.sub (ws' := [(h0, .inl (g 1, 1, .inr (.inl (fun _ => 0))))]) [0] rfl
    have hD9 := hD.sub (ws' := [(h0, .inl (g 1, 1, .inr (.inl (fun _ => 0))))]) [0] (by decide) rfl
    refine W.widen (k := 2) (n := 12) (Nat.le_of_ble_eq_true rfl) (Nat.le_of_ble_eq_true rfl) ?_
    exact W.iret (v := 0) hx hb hr (fun t ht9 hW9 => ⟨⟨0, (), rfl, (Or.inr ⟨rfl, ⟨c_11, c_12, c_13, c_14⟩⟩), ⟨(by rw [ht9]; exact hP9), hD9⟩⟩, hS.F ht9⟩) hS.2.2 dL_repair_22 hlocks
set_option maxHeartbeats 4000000 in
set_option maxRecDepth 100000 in
theorem k_L_sameAs (l : Launch) (hfl : l.stackTraces = false) (D : va_G) (g : Nat → ClassId) (z0 sz : Nat) (a : Nat → Nat) (p0 : Int32) (p1 : Int32) (h0 : Nat) (hc_p1 : isC p1) : Met l yL_sameAs (.codeWith yL_sameAs cL_sameAs 5 (some .int) [(0, 10, 13, 26), (0, 10, 17, 24)] :: TG) (rmk 8 1 6 127) (va_Pc [.ref (a 0), .int p0, .int p1, .ref h0] (PP D g z0 sz [(h0, .inl (g 1, 1, .inr (.inl (fun _ => 0)))), ((a 0), f_x a), ((a 10), f_wires a)])) (va_Qi (fun (r : Int32) (u : Unit) => (r = 1) ∧ True) (fun (u : Unit) (t : State) => va_P D vwCl [(h0, .inl (g 1, 1, .inr (.inl (fun _ => 0))))] t.heap ∧ va_D (va_A [(h0, .inl (g 1, 1, .inr (.inl (fun _ => 0)))), ((a 0), f_x a), ((a 10), f_wires a)] sz) [(h0, .inl (g 1, 1, .inr (.inl (fun _ => 0))))]) (va_A [(h0, .inl (g 1, 1, .inr (.inl (fun _ => 0)))), ((a 0), f_x a), ((a 10), f_wires a)] sz)) 1 6 (va_A [(h0, .inl (g 1, 1, .inr (.inl (fun _ => 0)))), ((a 0), f_x a), ((a 10), f_wires a)] sz) := by
  refine metW0 (cc := cL_sameAs) (n := 5) (hh := [(0, 10, 13, 26), (0, 10, 17, 24)]) (by decide) (Nat.le_of_ble_eq_true rfl) ?_
  intro p e s m args below meth c hx hb hr hml htab hown ht hlocks hnm hP0 hD0 hK hZ hsz hz ls hl
  subst hsz
  have hA : ∀ q : Nat, s.heap.size ≤ q → va_A [(h0, .inl (g 1, 1, .inr (.inl (fun _ => 0)))), ((a 0), f_x a), ((a 10), f_wires a)] s.heap.size q := Anw
  have hAz : ∀ q, va_A [(h0, .inl (g 1, 1, .inr (.inl (fun _ => 0)))), ((a 0), f_x a), ((a 10), f_wires a)] s.heap.size q → z0 ≤ q := Awz hz hD0
  have hS : va_S (va_A [(h0, .inl (g 1, 1, .inr (.inl (fun _ => 0)))), ((a 0), f_x a), ((a 10), f_wires a)] s.heap.size) s.heap s.heap [] := va_S.rf
  have hD : va_D (va_A [(h0, .inl (g 1, 1, .inr (.inl (fun _ => 0)))), ((a 0), f_x a), ((a 10), f_wires a)] s.heap.size) [(h0, .inl (g 1, 1, .inr (.inl (fun _ => 0)))), ((a 0), f_x a), ((a 10), f_wires a)] := hD0.self
  have hP : va_P D vwCl [(h0, .inl (g 1, 1, .inr (.inl (fun _ => 0)))), ((a 0), f_x a), ((a 10), f_wires a)] s.heap := hP0
  have hl : lv_has ls 5 [(0, .ref (a 0)), (1, .int p0), (2, .int p1), (3, .ref h0)] := hl
  refine lv_aload_n hx hb dL_sameAs_0 rfl (lv_at hl 3 rfl) ?_
  refine lv_iconst (v := 0) hx hb dL_sameAs_1 (by decide) ?_
  refine lv_aload_n hx hb dL_sameAs_2 rfl (lv_at hl 0 rfl) ?_
  refine lv_iload_n hx hb dL_sameAs_3 rfl (lv_at hl 1 rfl) ?_
  refine lv_iload_n hx hb dL_sameAs_4 rfl (lv_at hl 2 rfl) ?_
  have hPc : va_P D vwCl [((a 0), f_x a), ((a 10), f_wires a)] _ := hP.sub (ws' := [((a 0), f_x a), ((a 10), f_wires a)]) [1, 2] rfl
  have hDc : va_D (fun q => z0 ≤ q) [((a 0), f_x a), ((a 10), f_wires a)] := (hD.to hAz).pick (ws' := [((a 0), f_x a), ((a 10), f_wires a)]) [1, 2] (by decide) rfl
  have hFc := AnA (ws := [(h0, .inl (g 1, 1, .inr (.inl (fun _ => 0)))), ((a 0), f_x a), ((a 10), f_wires a)]) hS.1
  refine vx_calli (vx_runV (As := [.int p0, .int p1]) (rest := [.int 0, .ref h0]) ⟨hx, hb, hml, hown, ht⟩ (k_X11_sameAs l hfl D g z0 _ a p0 p1 hc_p1) (cwV 2 ht (gV w_708 w_710 w_711 w_31 w_709) rfl rfl rfl (by decide +kernel) (le2 rfl rfl)) ⟨PP.blind, va_recv hK.1 hP (ci := 17) (q0 := 1) rfl rfl, PP.mk' hK hZ hz hAz hS hPc hDc⟩ rfl rfl hl.1 rfl (lv_room (Nat.le_of_ble_eq_true rfl)) dL_sameAs_5 (le2 rfl rfl)) hS (fun q _ h => hFc q h) hFc (fun q _ h => hFc q h) (fun E ce q9 u t H locs ht1 hvm hw hB hz1 hk1 hS hcell hv9 hcl => ?_) (fun r u t H locs ht1 hvm hw hB hz1 hk1 hS => ?_)
  · have hP := ro1 hP hk1
    obtain ⟨rfl, hB⟩ := hB
    refine vx_catch hown [] ⟨0, 10, 13, 26⟩ [⟨0, 10, 17, 24⟩] (htab.trans rfl) (fun _ h9 => absurd h9 List.not_mem_nil) (by decide) (by decide) (ht _ w_534) (hK.2.2.use w_535) hcell hv9 hcl ?_
    refine W.eq (g2 := F0 m 13 ls [.ref q9]) rfl ?_
    refine lv_astore (lv' := [(4, .ref q9), (0, .ref (a 0)), (1, .int p0), (2, .int p1), (3, .ref h0)]) hx hb dL_sameAs_13 hl (by decide) rfl (fun ls hl => ?_)
    refine lv_iconst (v := 1) hx hb dL_sameAs_15 (by decide) ?_
    have hP9 := hP.sub (ws' := [(h0, .inl (g 1, 1, .inr (.inl (fun _ => 0))))]) [0] rfl
    have hD9 := hD.sub (ws' := [(h0, .inl (g 1, 1, .inr (.inl (fun _ => 0))))]) [0] (by decide) rfl
    refine W.widen (k := 1) (n := 6) (Nat.le_of_ble_eq_true rfl) (Nat.le_of_ble_eq_true rfl) ?_
    exact W.iret (v := 1) hx hb hr (fun t ht9 hW9 => ⟨⟨1, (), rfl, ⟨rfl, trivial⟩, ⟨(by rw [ht9]; exact hP9), hD9⟩⟩, hS.F ht9⟩) hS.2.2 dL_sameAs_16 hlocks
  · exact hw.elim
set_option maxHeartbeats 4000000 in
set_option maxRecDepth 100000 in
theorem k_L_seedFor (l : Launch) (hfl : l.stackTraces = false) (D : va_G) (g : Nat → ClassId) (z0 sz : Nat) (a : Nat → Nat) (p0 : Int32) (h0 : Nat) : Met l yL_seedFor (.codeWith yL_seedFor cL_seedFor 4 (some .int) [(0, 9, 12, 26), (0, 9, 15, 86)] :: TG) (rmk 8 1 6 124) (va_Pc [.ref (a 0), .int p0, .ref h0] (PP D g z0 sz [(h0, .inl (g 1, 1, .inr (.inl (fun _ => 0)))), ((a 0), f_x a), ((a 3), f_rows a)])) (va_Qi (fun (r : Int32) (u : Unit) => (r = 1) ∧ True) (fun (u : Unit) (t : State) => va_P D vwCl [(h0, .inl (g 1, 1, .inr (.inl (fun _ => 0))))] t.heap ∧ va_D (va_A [(h0, .inl (g 1, 1, .inr (.inl (fun _ => 0)))), ((a 0), f_x a), ((a 3), f_rows a)] sz) [(h0, .inl (g 1, 1, .inr (.inl (fun _ => 0))))]) (va_A [(h0, .inl (g 1, 1, .inr (.inl (fun _ => 0)))), ((a 0), f_x a), ((a 3), f_rows a)] sz)) 1 6 (va_A [(h0, .inl (g 1, 1, .inr (.inl (fun _ => 0)))), ((a 0), f_x a), ((a 3), f_rows a)] sz) := by
  refine metW0 (cc := cL_seedFor) (n := 4) (hh := [(0, 9, 12, 26), (0, 9, 15, 86)]) (by decide) (Nat.le_of_ble_eq_true rfl) ?_
  intro p e s m args below meth c hx hb hr hml htab hown ht hlocks hnm hP0 hD0 hK hZ hsz hz ls hl
  subst hsz
  have hA : ∀ q : Nat, s.heap.size ≤ q → va_A [(h0, .inl (g 1, 1, .inr (.inl (fun _ => 0)))), ((a 0), f_x a), ((a 3), f_rows a)] s.heap.size q := Anw
  have hAz : ∀ q, va_A [(h0, .inl (g 1, 1, .inr (.inl (fun _ => 0)))), ((a 0), f_x a), ((a 3), f_rows a)] s.heap.size q → z0 ≤ q := Awz hz hD0
  have hS : va_S (va_A [(h0, .inl (g 1, 1, .inr (.inl (fun _ => 0)))), ((a 0), f_x a), ((a 3), f_rows a)] s.heap.size) s.heap s.heap [] := va_S.rf
  have hD : va_D (va_A [(h0, .inl (g 1, 1, .inr (.inl (fun _ => 0)))), ((a 0), f_x a), ((a 3), f_rows a)] s.heap.size) [(h0, .inl (g 1, 1, .inr (.inl (fun _ => 0)))), ((a 0), f_x a), ((a 3), f_rows a)] := hD0.self
  have hP : va_P D vwCl [(h0, .inl (g 1, 1, .inr (.inl (fun _ => 0)))), ((a 0), f_x a), ((a 3), f_rows a)] s.heap := hP0
  have hl : lv_has ls 4 [(0, .ref (a 0)), (1, .int p0), (2, .ref h0)] := hl
  refine lv_aload_n hx hb dL_seedFor_0 rfl (lv_at hl 2 rfl) ?_
  refine lv_iconst (v := 0) hx hb dL_seedFor_1 (by decide) ?_
  refine lv_aload_n hx hb dL_seedFor_2 rfl (lv_at hl 0 rfl) ?_
  refine lv_iload_n hx hb dL_seedFor_3 rfl (lv_at hl 1 rfl) ?_
  have hPc : va_P D vwCl [((a 0), f_x a), ((a 3), f_rows a)] _ := hP.sub (ws' := [((a 0), f_x a), ((a 3), f_rows a)]) [1, 2] rfl
  have hDc : va_D (fun q => z0 ≤ q) [((a 0), f_x a), ((a 3), f_rows a)] := (hD.to hAz).pick (ws' := [((a 0), f_x a), ((a 3), f_rows a)]) [1, 2] (by decide) rfl
  have hFc := AnA (ws := [(h0, .inl (g 1, 1, .inr (.inl (fun _ => 0)))), ((a 0), f_x a), ((a 3), f_rows a)]) hS.1
  refine vx_calli (vx_runV (As := [.int p0]) (rest := [.int 0, .ref h0]) ⟨hx, hb, hml, hown, ht⟩ (k_X11_seedFor l hfl D g z0 _ a p0) (cwV 1 ht (gV w_712 w_714 w_715 w_31 w_713) rfl rfl rfl (by decide +kernel) (le2 rfl rfl)) ⟨PP.blind, va_recv hK.1 hP (ci := 17) (q0 := 1) rfl rfl, PP.mk' hK hZ hz hAz hS hPc hDc⟩ rfl rfl hl.1 rfl (lv_room (Nat.le_of_ble_eq_true rfl)) dL_seedFor_4 (le2 rfl rfl)) hS (fun q _ h => hFc q h) hFc (fun q _ h => hFc q h) (fun E ce q9 u t H locs ht1 hvm hw hB hz1 hk1 hS hcell hv9 hcl => ?_) (fun r u t H locs ht1 hvm hw hB hz1 hk1 hS => ?_)
  · have hP := ro1 hP hk1
    obtain ⟨rfl, hB⟩ := hB
    refine vx_catch hown [] ⟨0, 9, 12, 26⟩ [⟨0, 9, 15, 86⟩] (htab.trans rfl) (fun _ h9 => absurd h9 List.not_mem_nil) (by decide) (by decide) (ht _ w_534) (hK.2.2.use w_535) hcell hv9 hcl ?_
    refine W.eq (g2 := F0 m 12 ls [.ref q9]) rfl ?_
    refine lv_astore_n (lv' := [(3, .ref q9), (0, .ref (a 0)), (1, .int p0), (2, .ref h0)]) hx hb dL_seedFor_12 rfl hl (by decide) rfl (fun ls hl => ?_)
    refine lv_iconst (v := 1) hx hb dL_seedFor_13 (by decide) ?_
    have hP9 := hP.sub (ws' := [(h0, .inl (g 1, 1, .inr (.inl (fun _ => 0))))]) [0] rfl
    have hD9 := hD.sub (ws' := [(h0, .inl (g 1, 1, .inr (.inl (fun _ => 0))))]) [0] (by decide) rfl
    refine W.widen (k := 1) (n := 6) (Nat.le_of_ble_eq_true rfl) (Nat.le_of_ble_eq_true rfl) ?_
    exact W.iret (v := 1) hx hb hr (fun t ht9 hW9 => ⟨⟨1, (), rfl, ⟨rfl, trivial⟩, ⟨(by rw [ht9]; exact hP9), hD9⟩⟩, hS.F ht9⟩) hS.2.2 dL_seedFor_14 hlocks
  · exact hw.elim
set_option maxHeartbeats 4000000 in
set_option maxRecDepth 100000 in
theorem k_L_seen (l : Launch) (hfl : l.stackTraces = false) (D : va_G) (g : Nat → ClassId) (z0 sz : Nat) (a : Nat → Nat) (p0 : Int32) (p1 : Int32) (h0 : Nat) : Met l yL_seen (.codeWith yL_seen cL_seen 5 (some .int) [(0, 10, 13, 26)] :: TG) (rmk 8 1 6 124) (va_Pc [.ref (a 0), .int p0, .int p1, .ref h0] (PP D g z0 sz [(h0, .inl (g 1, 1, .inr (.inl (fun _ => 0)))), ((a 0), f_x a), ((a 3), f_rows a)])) (va_Qi (fun (r : Int32) (u : Unit) => (r = 1) ∧ True) (fun (u : Unit) (t : State) => va_P D vwCl [(h0, .inl (g 1, 1, .inr (.inl (fun _ => 0))))] t.heap ∧ va_D (va_A [(h0, .inl (g 1, 1, .inr (.inl (fun _ => 0)))), ((a 0), f_x a), ((a 3), f_rows a)] sz) [(h0, .inl (g 1, 1, .inr (.inl (fun _ => 0))))]) (va_A [(h0, .inl (g 1, 1, .inr (.inl (fun _ => 0)))), ((a 0), f_x a), ((a 3), f_rows a)] sz)) 1 6 (va_A [(h0, .inl (g 1, 1, .inr (.inl (fun _ => 0)))), ((a 0), f_x a), ((a 3), f_rows a)] sz) := by
  refine metW0 (cc := cL_seen) (n := 5) (hh := [(0, 10, 13, 26)]) (by decide) (Nat.le_of_ble_eq_true rfl) ?_
  intro p e s m args below meth c hx hb hr hml htab hown ht hlocks hnm hP0 hD0 hK hZ hsz hz ls hl
  subst hsz
  have hA : ∀ q : Nat, s.heap.size ≤ q → va_A [(h0, .inl (g 1, 1, .inr (.inl (fun _ => 0)))), ((a 0), f_x a), ((a 3), f_rows a)] s.heap.size q := Anw
  have hAz : ∀ q, va_A [(h0, .inl (g 1, 1, .inr (.inl (fun _ => 0)))), ((a 0), f_x a), ((a 3), f_rows a)] s.heap.size q → z0 ≤ q := Awz hz hD0
  have hS : va_S (va_A [(h0, .inl (g 1, 1, .inr (.inl (fun _ => 0)))), ((a 0), f_x a), ((a 3), f_rows a)] s.heap.size) s.heap s.heap [] := va_S.rf
  have hD : va_D (va_A [(h0, .inl (g 1, 1, .inr (.inl (fun _ => 0)))), ((a 0), f_x a), ((a 3), f_rows a)] s.heap.size) [(h0, .inl (g 1, 1, .inr (.inl (fun _ => 0)))), ((a 0), f_x a), ((a 3), f_rows a)] := hD0.self
  have hP : va_P D vwCl [(h0, .inl (g 1, 1, .inr (.inl (fun _ => 0)))), ((a 0), f_x a), ((a 3), f_rows a)] s.heap := hP0
  have hl : lv_has ls 5 [(0, .ref (a 0)), (1, .int p0), (2, .int p1), (3, .ref h0)] := hl
  refine lv_aload_n hx hb dL_seen_0 rfl (lv_at hl 3 rfl) ?_
  refine lv_iconst (v := 0) hx hb dL_seen_1 (by decide) ?_
  refine lv_aload_n hx hb dL_seen_2 rfl (lv_at hl 0 rfl) ?_
  refine lv_iload_n hx hb dL_seen_3 rfl (lv_at hl 1 rfl) ?_
  refine lv_iload_n hx hb dL_seen_4 rfl (lv_at hl 2 rfl) ?_
  have hPc : va_P D vwCl [((a 0), f_x a), ((a 3), f_rows a)] _ := hP.sub (ws' := [((a 0), f_x a), ((a 3), f_rows a)]) [1, 2] rfl
  have hDc : va_D (fun q => z0 ≤ q) [((a 0), f_x a), ((a 3), f_rows a)] := (hD.to hAz).pick (ws' := [((a 0), f_x a), ((a 3), f_rows a)]) [1, 2] (by decide) rfl
  have hFc := AnA (ws := [(h0, .inl (g 1, 1, .inr (.inl (fun _ => 0)))), ((a 0), f_x a), ((a 3), f_rows a)]) hS.1
  refine vx_calli (vx_runV (As := [.int p0, .int p1]) (rest := [.int 0, .ref h0]) ⟨hx, hb, hml, hown, ht⟩ (k_X11_seen l hfl D g z0 _ a p0 p1) (cwV 2 ht (gV w_716 w_718 w_719 w_31 w_717) rfl rfl rfl (by decide +kernel) (le2 rfl rfl)) ⟨PP.blind, va_recv hK.1 hP (ci := 17) (q0 := 1) rfl rfl, PP.mk' hK hZ hz hAz hS hPc hDc⟩ rfl rfl hl.1 rfl (lv_room (Nat.le_of_ble_eq_true rfl)) dL_seen_5 (le2 rfl rfl)) hS (fun q _ h => hFc q h) hFc (fun q _ h => hFc q h) (fun E ce q9 u t H locs ht1 hvm hw hB hz1 hk1 hS hcell hv9 hcl => ?_) (fun r u t H locs ht1 hvm hw hB hz1 hk1 hS => ?_)
  · have hP := ro1 hP hk1
    obtain ⟨rfl, hB⟩ := hB
    refine vx_catch hown [] ⟨0, 10, 13, 26⟩ [] (htab.trans rfl) (fun _ h9 => absurd h9 List.not_mem_nil) (by decide) (by decide) (ht _ w_534) (hK.2.2.use w_535) hcell hv9 hcl ?_
    refine W.eq (g2 := F0 m 13 ls [.ref q9]) rfl ?_
    refine lv_astore (lv' := [(4, .ref q9), (0, .ref (a 0)), (1, .int p0), (2, .int p1), (3, .ref h0)]) hx hb dL_seen_13 hl (by decide) rfl (fun ls hl => ?_)
    refine lv_iconst (v := 1) hx hb dL_seen_15 (by decide) ?_
    have hP9 := hP.sub (ws' := [(h0, .inl (g 1, 1, .inr (.inl (fun _ => 0))))]) [0] rfl
    have hD9 := hD.sub (ws' := [(h0, .inl (g 1, 1, .inr (.inl (fun _ => 0))))]) [0] (by decide) rfl
    refine W.widen (k := 1) (n := 6) (Nat.le_of_ble_eq_true rfl) (Nat.le_of_ble_eq_true rfl) ?_
    exact W.iret (v := 1) hx hb hr (fun t ht9 hW9 => ⟨⟨1, (), rfl, ⟨rfl, trivial⟩, ⟨(by rw [ht9]; exact hP9), hD9⟩⟩, hS.F ht9⟩) hS.2.2 dL_seen_16 hlocks
  · exact hw.elim
set_option maxHeartbeats 4000000 in
set_option maxRecDepth 100000 in
theorem k_L_setTime (l : Launch) (hfl : l.stackTraces = false) (D : va_G) (g : Nat → ClassId) (z0 sz : Nat) (a : Nat → Nat) (p0 : Int32) (p1 : Int32) (h0 : Nat) : Met l yL_setTime (.codeWith yL_setTime cL_setTime 5 (some .int) [(0, 10, 13, 26), (0, 10, 17, 24)] :: TG) (rmk 8 1 6 125) (va_Pc [.ref (a 0), .int p0, .int p1, .ref h0] (PP D g z0 sz [(h0, .inl (g 1, 1, .inr (.inl (fun _ => 0)))), ((a 0), f_x a), ((a 3), f_rows a)])) (va_Qi (fun (r : Int32) (u : Unit) => (r = 1) ∧ True) (fun (u : Unit) (t : State) => va_P D vwCl [(h0, .inl (g 1, 1, .inr (.inl (fun _ => 0))))] t.heap ∧ va_D (va_A [(h0, .inl (g 1, 1, .inr (.inl (fun _ => 0)))), ((a 0), f_x a), ((a 3), f_rows a)] sz) [(h0, .inl (g 1, 1, .inr (.inl (fun _ => 0))))]) (va_A [(h0, .inl (g 1, 1, .inr (.inl (fun _ => 0)))), ((a 0), f_x a), ((a 3), f_rows a)] sz)) 1 6 (va_A [(h0, .inl (g 1, 1, .inr (.inl (fun _ => 0)))), ((a 0), f_x a), ((a 3), f_rows a)] sz) := by
  refine metW0 (cc := cL_setTime) (n := 5) (hh := [(0, 10, 13, 26), (0, 10, 17, 24)]) (by decide) (Nat.le_of_ble_eq_true rfl) ?_
  intro p e s m args below meth c hx hb hr hml htab hown ht hlocks hnm hP0 hD0 hK hZ hsz hz ls hl
  subst hsz
  have hA : ∀ q : Nat, s.heap.size ≤ q → va_A [(h0, .inl (g 1, 1, .inr (.inl (fun _ => 0)))), ((a 0), f_x a), ((a 3), f_rows a)] s.heap.size q := Anw
  have hAz : ∀ q, va_A [(h0, .inl (g 1, 1, .inr (.inl (fun _ => 0)))), ((a 0), f_x a), ((a 3), f_rows a)] s.heap.size q → z0 ≤ q := Awz hz hD0
  have hS : va_S (va_A [(h0, .inl (g 1, 1, .inr (.inl (fun _ => 0)))), ((a 0), f_x a), ((a 3), f_rows a)] s.heap.size) s.heap s.heap [] := va_S.rf
  have hD : va_D (va_A [(h0, .inl (g 1, 1, .inr (.inl (fun _ => 0)))), ((a 0), f_x a), ((a 3), f_rows a)] s.heap.size) [(h0, .inl (g 1, 1, .inr (.inl (fun _ => 0)))), ((a 0), f_x a), ((a 3), f_rows a)] := hD0.self
  have hP : va_P D vwCl [(h0, .inl (g 1, 1, .inr (.inl (fun _ => 0)))), ((a 0), f_x a), ((a 3), f_rows a)] s.heap := hP0
  have hl : lv_has ls 5 [(0, .ref (a 0)), (1, .int p0), (2, .int p1), (3, .ref h0)] := hl
  refine lv_aload_n hx hb dL_setTime_0 rfl (lv_at hl 3 rfl) ?_
  refine lv_iconst (v := 0) hx hb dL_setTime_1 (by decide) ?_
  refine lv_aload_n hx hb dL_setTime_2 rfl (lv_at hl 0 rfl) ?_
  refine lv_iload_n hx hb dL_setTime_3 rfl (lv_at hl 1 rfl) ?_
  refine lv_iload_n hx hb dL_setTime_4 rfl (lv_at hl 2 rfl) ?_
  have hPc : va_P D vwCl [((a 0), f_x a), ((a 3), f_rows a)] _ := hP.sub (ws' := [((a 0), f_x a), ((a 3), f_rows a)]) [1, 2] rfl
  have hDc : va_D (fun q => z0 ≤ q) [((a 0), f_x a), ((a 3), f_rows a)] := (hD.to hAz).pick (ws' := [((a 0), f_x a), ((a 3), f_rows a)]) [1, 2] (by decide) rfl
  have hFc := AnA (ws := [(h0, .inl (g 1, 1, .inr (.inl (fun _ => 0)))), ((a 0), f_x a), ((a 3), f_rows a)]) hS.1
  refine vx_calli (vx_runV (As := [.int p0, .int p1]) (rest := [.int 0, .ref h0]) ⟨hx, hb, hml, hown, ht⟩ (k_X11_setTime l hfl D g z0 _ a p0 p1) (cwV 2 ht (gV w_720 w_722 w_723 w_31 w_721) rfl rfl rfl (by decide +kernel) (le2 rfl rfl)) ⟨PP.blind, va_recv hK.1 hP (ci := 17) (q0 := 1) rfl rfl, PP.mk' hK hZ hz hAz hS hPc hDc⟩ rfl rfl hl.1 rfl (lv_room (Nat.le_of_ble_eq_true rfl)) dL_setTime_5 (le2 rfl rfl)) hS (fun q _ h => hFc q h) hFc (fun q _ h => hFc q h) (fun E ce q9 u t H locs ht1 hvm hw hB hz1 hk1 hS hcell hv9 hcl => ?_) (fun r u t H locs ht1 hvm hw hB hz1 hk1 hS => ?_)
  · have hP := ro1 hP hk1
    obtain ⟨rfl, hB⟩ := hB
    refine vx_catch hown [] ⟨0, 10, 13, 26⟩ [⟨0, 10, 17, 24⟩] (htab.trans rfl) (fun _ h9 => absurd h9 List.not_mem_nil) (by decide) (by decide) (ht _ w_534) (hK.2.2.use w_535) hcell hv9 hcl ?_
    refine W.eq (g2 := F0 m 13 ls [.ref q9]) rfl ?_
    refine lv_astore (lv' := [(4, .ref q9), (0, .ref (a 0)), (1, .int p0), (2, .int p1), (3, .ref h0)]) hx hb dL_setTime_13 hl (by decide) rfl (fun ls hl => ?_)
    refine lv_iconst (v := 1) hx hb dL_setTime_15 (by decide) ?_
    have hP9 := hP.sub (ws' := [(h0, .inl (g 1, 1, .inr (.inl (fun _ => 0))))]) [0] rfl
    have hD9 := hD.sub (ws' := [(h0, .inl (g 1, 1, .inr (.inl (fun _ => 0))))]) [0] (by decide) rfl
    refine W.widen (k := 1) (n := 6) (Nat.le_of_ble_eq_true rfl) (Nat.le_of_ble_eq_true rfl) ?_
    exact W.iret (v := 1) hx hb hr (fun t ht9 hW9 => ⟨⟨1, (), rfl, ⟨rfl, trivial⟩, ⟨(by rw [ht9]; exact hP9), hD9⟩⟩, hS.F ht9⟩) hS.2.2 dL_setTime_16 hlocks
  · exact hw.elim
set_option maxHeartbeats 4000000 in
set_option maxRecDepth 100000 in
theorem k_L_shortWires (l : Launch) (hfl : l.stackTraces = false) (D : va_G) (g : Nat → ClassId) (z0 sz : Nat) (a : Nat → Nat) (p0 : Int32) (p1 : Int32) (h0 : Nat) : Met l yL_shortWires (.codeWith yL_shortWires cL_shortWires 5 (some .int) [(0, 10, 13, 26), (0, 10, 17, 24)] :: TG) (rmk 8 1 6 124) (va_Pc [.ref (a 0), .int p0, .int p1, .ref h0] (PP D g z0 sz [(h0, .inl (g 1, 1, .inr (.inl (fun _ => 0)))), ((a 0), f_x a), ((a 10), f_wires a)])) (va_Qi (fun (r : Int32) (u : Unit) => (r = 1) ∧ True) (fun (u : Unit) (t : State) => va_P D vwCl [(h0, .inl (g 1, 1, .inr (.inl (fun _ => 0))))] t.heap ∧ va_D (va_A [(h0, .inl (g 1, 1, .inr (.inl (fun _ => 0)))), ((a 0), f_x a), ((a 10), f_wires a)] sz) [(h0, .inl (g 1, 1, .inr (.inl (fun _ => 0))))]) (va_A [(h0, .inl (g 1, 1, .inr (.inl (fun _ => 0)))), ((a 0), f_x a), ((a 10), f_wires a)] sz)) 1 6 (va_A [(h0, .inl (g 1, 1, .inr (.inl (fun _ => 0)))), ((a 0), f_x a), ((a 10), f_wires a)] sz) := by
  refine metW0 (cc := cL_shortWires) (n := 5) (hh := [(0, 10, 13, 26), (0, 10, 17, 24)]) (by decide) (Nat.le_of_ble_eq_true rfl) ?_
  intro p e s m args below meth c hx hb hr hml htab hown ht hlocks hnm hP0 hD0 hK hZ hsz hz ls hl
  subst hsz
  have hA : ∀ q : Nat, s.heap.size ≤ q → va_A [(h0, .inl (g 1, 1, .inr (.inl (fun _ => 0)))), ((a 0), f_x a), ((a 10), f_wires a)] s.heap.size q := Anw
  have hAz : ∀ q, va_A [(h0, .inl (g 1, 1, .inr (.inl (fun _ => 0)))), ((a 0), f_x a), ((a 10), f_wires a)] s.heap.size q → z0 ≤ q := Awz hz hD0
  have hS : va_S (va_A [(h0, .inl (g 1, 1, .inr (.inl (fun _ => 0)))), ((a 0), f_x a), ((a 10), f_wires a)] s.heap.size) s.heap s.heap [] := va_S.rf
  have hD : va_D (va_A [(h0, .inl (g 1, 1, .inr (.inl (fun _ => 0)))), ((a 0), f_x a), ((a 10), f_wires a)] s.heap.size) [(h0, .inl (g 1, 1, .inr (.inl (fun _ => 0)))), ((a 0), f_x a), ((a 10), f_wires a)] := hD0.self
  have hP : va_P D vwCl [(h0, .inl (g 1, 1, .inr (.inl (fun _ => 0)))), ((a 0), f_x a), ((a 10), f_wires a)] s.heap := hP0
  have hl : lv_has ls 5 [(0, .ref (a 0)), (1, .int p0), (2, .int p1), (3, .ref h0)] := hl
  refine lv_aload_n hx hb dL_shortWires_0 rfl (lv_at hl 3 rfl) ?_
  refine lv_iconst (v := 0) hx hb dL_shortWires_1 (by decide) ?_
  refine lv_aload_n hx hb dL_shortWires_2 rfl (lv_at hl 0 rfl) ?_
  refine lv_iload_n hx hb dL_shortWires_3 rfl (lv_at hl 1 rfl) ?_
  refine lv_iload_n hx hb dL_shortWires_4 rfl (lv_at hl 2 rfl) ?_
  have hPc : va_P D vwCl [((a 0), f_x a), ((a 10), f_wires a)] _ := hP.sub (ws' := [((a 0), f_x a), ((a 10), f_wires a)]) [1, 2] rfl
  have hDc : va_D (fun q => z0 ≤ q) [((a 0), f_x a), ((a 10), f_wires a)] := (hD.to hAz).pick (ws' := [((a 0), f_x a), ((a 10), f_wires a)]) [1, 2] (by decide) rfl
  have hFc := AnA (ws := [(h0, .inl (g 1, 1, .inr (.inl (fun _ => 0)))), ((a 0), f_x a), ((a 10), f_wires a)]) hS.1
  refine vx_calli (vx_runV (As := [.int p0, .int p1]) (rest := [.int 0, .ref h0]) ⟨hx, hb, hml, hown, ht⟩ (k_X11_shortWires l hfl D g z0 _ a p0 p1) (cwV 2 ht (gV w_724 w_726 w_727 w_31 w_725) rfl rfl rfl (by decide +kernel) (le2 rfl rfl)) ⟨PP.blind, va_recv hK.1 hP (ci := 17) (q0 := 1) rfl rfl, PP.mk' hK hZ hz hAz hS hPc hDc⟩ rfl rfl hl.1 rfl (lv_room (Nat.le_of_ble_eq_true rfl)) dL_shortWires_5 (le2 rfl rfl)) hS (fun q _ h => hFc q h) hFc (fun q _ h => hFc q h) (fun E ce q9 u t H locs ht1 hvm hw hB hz1 hk1 hS hcell hv9 hcl => ?_) (fun r u t H locs ht1 hvm hw hB hz1 hk1 hS => ?_)
  · have hP := ro1 hP hk1
    obtain ⟨rfl, hB⟩ := hB
    refine vx_catch hown [] ⟨0, 10, 13, 26⟩ [⟨0, 10, 17, 24⟩] (htab.trans rfl) (fun _ h9 => absurd h9 List.not_mem_nil) (by decide) (by decide) (ht _ w_534) (hK.2.2.use w_535) hcell hv9 hcl ?_
    refine W.eq (g2 := F0 m 13 ls [.ref q9]) rfl ?_
    refine lv_astore (lv' := [(4, .ref q9), (0, .ref (a 0)), (1, .int p0), (2, .int p1), (3, .ref h0)]) hx hb dL_shortWires_13 hl (by decide) rfl (fun ls hl => ?_)
    refine lv_iconst (v := 1) hx hb dL_shortWires_15 (by decide) ?_
    have hP9 := hP.sub (ws' := [(h0, .inl (g 1, 1, .inr (.inl (fun _ => 0))))]) [0] rfl
    have hD9 := hD.sub (ws' := [(h0, .inl (g 1, 1, .inr (.inl (fun _ => 0))))]) [0] (by decide) rfl
    refine W.widen (k := 1) (n := 6) (Nat.le_of_ble_eq_true rfl) (Nat.le_of_ble_eq_true rfl) ?_
    exact W.iret (v := 1) hx hb hr (fun t ht9 hW9 => ⟨⟨1, (), rfl, ⟨rfl, trivial⟩, ⟨(by rw [ht9]; exact hP9), hD9⟩⟩, hS.F ht9⟩) hS.2.2 dL_shortWires_16 hlocks
  · exact hw.elim
set_option maxHeartbeats 4000000 in
set_option maxRecDepth 100000 in
theorem k_L_signature (l : Launch) (hfl : l.stackTraces = false) (D : va_G) (g : Nat → ClassId) (z0 sz : Nat) (a : Nat → Nat) (p0 : Int32) (h0 : Nat) : Met l yL_signature (.codeWith yL_signature cL_signature 4 (some .int) [(0, 9, 12, 26), (0, 9, 15, 24)] :: TG) (rmk 9 1 6 144) (va_Pc [.ref (a 0), .int p0, .ref h0] (PP D g z0 sz [(h0, .inl (g 1, 1, .inr (.inl (fun _ => 0)))), ((a 0), f_x a), ((a 3), f_rows a), ((a 4), f_words a), ((a 38), .inl (g 1, 12, .inr (.inl (fun _ => 0)))), ((a 39), .inl (g 1, 12, .inr (.inl (fun _ => 0)))), ((a 1), f_net a), ((a 2), f_book a)])) (va_Qi (fun (r : Int32) (u : Unit) => ((r = 1) ∧ (¬ p0 = (-1))) ∨ ((r = 0) ∧ (p0 = (-1)))) (fun (u : Unit) (t : State) => va_P D vwCl [(h0, .inl (g 1, 1, .inr (.inl (fun _ => 0))))] t.heap ∧ va_D (va_A [(h0, .inl (g 1, 1, .inr (.inl (fun _ => 0)))), ((a 0), f_x a), ((a 3), f_rows a), ((a 4), f_words a), ((a 38), .inl (g 1, 12, .inr (.inl (fun _ => 0)))), ((a 39), .inl (g 1, 12, .inr (.inl (fun _ => 0)))), ((a 1), f_net a), ((a 2), f_book a)] sz) [(h0, .inl (g 1, 1, .inr (.inl (fun _ => 0))))]) (va_A [(h0, .inl (g 1, 1, .inr (.inl (fun _ => 0)))), ((a 0), f_x a), ((a 3), f_rows a), ((a 4), f_words a), ((a 38), .inl (g 1, 12, .inr (.inl (fun _ => 0)))), ((a 39), .inl (g 1, 12, .inr (.inl (fun _ => 0)))), ((a 1), f_net a), ((a 2), f_book a)] sz)) 1 6 (va_A [(h0, .inl (g 1, 1, .inr (.inl (fun _ => 0)))), ((a 0), f_x a), ((a 3), f_rows a), ((a 4), f_words a), ((a 38), .inl (g 1, 12, .inr (.inl (fun _ => 0)))), ((a 39), .inl (g 1, 12, .inr (.inl (fun _ => 0)))), ((a 1), f_net a), ((a 2), f_book a)] sz) := by
  refine metW0 (cc := cL_signature) (n := 4) (hh := [(0, 9, 12, 26), (0, 9, 15, 24)]) (by decide) (Nat.le_of_ble_eq_true rfl) ?_
  intro p e s m args below meth c hx hb hr hml htab hown ht hlocks hnm hP0 hD0 hK hZ hsz hz ls hl
  subst hsz
  have hA : ∀ q : Nat, s.heap.size ≤ q → va_A [(h0, .inl (g 1, 1, .inr (.inl (fun _ => 0)))), ((a 0), f_x a), ((a 3), f_rows a), ((a 4), f_words a), ((a 38), .inl (g 1, 12, .inr (.inl (fun _ => 0)))), ((a 39), .inl (g 1, 12, .inr (.inl (fun _ => 0)))), ((a 1), f_net a), ((a 2), f_book a)] s.heap.size q := Anw
  have hAz : ∀ q, va_A [(h0, .inl (g 1, 1, .inr (.inl (fun _ => 0)))), ((a 0), f_x a), ((a 3), f_rows a), ((a 4), f_words a), ((a 38), .inl (g 1, 12, .inr (.inl (fun _ => 0)))), ((a 39), .inl (g 1, 12, .inr (.inl (fun _ => 0)))), ((a 1), f_net a), ((a 2), f_book a)] s.heap.size q → z0 ≤ q := Awz hz hD0
  have hS : va_S (va_A [(h0, .inl (g 1, 1, .inr (.inl (fun _ => 0)))), ((a 0), f_x a), ((a 3), f_rows a), ((a 4), f_words a), ((a 38), .inl (g 1, 12, .inr (.inl (fun _ => 0)))), ((a 39), .inl (g 1, 12, .inr (.inl (fun _ => 0)))), ((a 1), f_net a), ((a 2), f_book a)] s.heap.size) s.heap s.heap [] := va_S.rf
  have hD : va_D (va_A [(h0, .inl (g 1, 1, .inr (.inl (fun _ => 0)))), ((a 0), f_x a), ((a 3), f_rows a), ((a 4), f_words a), ((a 38), .inl (g 1, 12, .inr (.inl (fun _ => 0)))), ((a 39), .inl (g 1, 12, .inr (.inl (fun _ => 0)))), ((a 1), f_net a), ((a 2), f_book a)] s.heap.size) [(h0, .inl (g 1, 1, .inr (.inl (fun _ => 0)))), ((a 0), f_x a), ((a 3), f_rows a), ((a 4), f_words a), ((a 38), .inl (g 1, 12, .inr (.inl (fun _ => 0)))), ((a 39), .inl (g 1, 12, .inr (.inl (fun _ => 0)))), ((a 1), f_net a), ((a 2), f_book a)] := hD0.self
  have hP : va_P D vwCl [(h0, .inl (g 1, 1, .inr (.inl (fun _ => 0)))), ((a 0), f_x a), ((a 3), f_rows a), ((a 4), f_words a), ((a 38), .inl (g 1, 12, .inr (.inl (fun _ => 0)))), ((a 39), .inl (g 1, 12, .inr (.inl (fun _ => 0)))), ((a 1), f_net a), ((a 2), f_book a)] s.heap := hP0
  have hl : lv_has ls 4 [(0, .ref (a 0)), (1, .int p0), (2, .ref h0)] := hl
  refine lv_aload_n hx hb dL_signature_0 rfl (lv_at hl 2 rfl) ?_
  refine lv_iconst (v := 0) hx hb dL_signature_1 (by decide) ?_
  refine lv_aload_n hx hb dL_signature_2 rfl (lv_at hl 0 rfl) ?_
  refine lv_iload_n hx hb dL_signature_3 rfl (lv_at hl 1 rfl) ?_
  have hPc : va_P D vwCl [((a 0), f_x a), ((a 3), f_rows a), ((a 4), f_words a), ((a 38), .inl (g 1, 12, .inr (.inl (fun _ => 0)))), ((a 39), .inl (g 1, 12, .inr (.inl (fun _ => 0)))), ((a 1), f_net a), ((a 2), f_book a)] _ := hP.sub (ws' := [((a 0), f_x a), ((a 3), f_rows a), ((a 4), f_words a), ((a 38), .inl (g 1, 12, .inr (.inl (fun _ => 0)))), ((a 39), .inl (g 1, 12, .inr (.inl (fun _ => 0)))), ((a 1), f_net a), ((a 2), f_book a)]) [1, 2, 3, 4, 5, 6, 7] rfl
  have hDc : va_D (fun q => z0 ≤ q) [((a 0), f_x a), ((a 3), f_rows a), ((a 4), f_words a), ((a 38), .inl (g 1, 12, .inr (.inl (fun _ => 0)))), ((a 39), .inl (g 1, 12, .inr (.inl (fun _ => 0)))), ((a 1), f_net a), ((a 2), f_book a)] := (hD.to hAz).pick (ws' := [((a 0), f_x a), ((a 3), f_rows a), ((a 4), f_words a), ((a 38), .inl (g 1, 12, .inr (.inl (fun _ => 0)))), ((a 39), .inl (g 1, 12, .inr (.inl (fun _ => 0)))), ((a 1), f_net a), ((a 2), f_book a)]) [1, 2, 3, 4, 5, 6, 7] (by decide) rfl
  have hFc := va_free (wc := [((a 0), f_x a), ((a 3), f_rows a), ((a 4), f_words a), ((a 38), .inl (g 1, 12, .inr (.inl (fun _ => 0)))), ((a 39), .inl (g 1, 12, .inr (.inl (fun _ => 0)))), ((a 1), f_net a), ((a 2), f_book a)]) hD hS hA [1, 2, 3, 4, 5, 6, 7] rfl
  refine vx_calli (vx_runV (As := [.int p0]) (rest := [.int 0, .ref h0]) ⟨hx, hb, hml, hown, ht⟩ (k_X11_signature l hfl D g z0 _ a p0) (cwV 1 ht (gV w_728 w_730 w_731 w_31 w_729) rfl rfl rfl (by decide +kernel) (le2 rfl rfl)) ⟨PP.blind, va_recv hK.1 hP (ci := 17) (q0 := 1) rfl rfl, PP.mk' hK hZ hz hAz hS hPc hDc⟩ rfl rfl hl.1 rfl (lv_room (Nat.le_of_ble_eq_true rfl)) dL_signature_4 (le2 rfl rfl)) hS (fun q _ h => hFc q h) hFc (fun q _ h => hFc q h) (fun E ce q9 u t H locs ht1 hvm hw hB hz1 hk1 hS hcell hv9 hcl => ?_) (fun r u t H locs ht1 hvm hw hB hz1 hk1 hS => ?_)
  · obtain ⟨hP, hD⟩ := va_join (wr := [(h0, .inl (g 1, 1, .inr (.inl (fun _ => 0))))]) (w1 := []) hP hD [1, 2, 3, 4, 5, 6, 7] [0] rfl rfl (by decide) (by decide) hk1 hFc nil_P nil_D
    have hP : va_P D vwCl [(h0, .inl (g 1, 1, .inr (.inl (fun _ => 0))))] H := hP
    have hD : va_D (va_A [(h0, .inl (g 1, 1, .inr (.inl (fun _ => 0)))), ((a 0), f_x a), ((a 3), f_rows a), ((a 4), f_words a), ((a 38), .inl (g 1, 12, .inr (.inl (fun _ => 0)))), ((a 39), .inl (g 1, 12, .inr (.inl (fun _ => 0)))), ((a 1), f_net a), ((a 2), f_book a)] s.heap.size) [(h0, .inl (g 1, 1, .inr (.inl (fun _ => 0))))] := hD
    obtain ⟨rfl, hB⟩ := hB
    have c_1 := hB
    refine vx_catch hown [] ⟨0, 9, 12, 26⟩ [⟨0, 9, 15, 24⟩] (htab.trans rfl) (fun _ h9 => absurd h9 List.not_mem_nil) (by decide) (by decide) (ht _ w_534) (hK.2.2.use w_535) hcell hv9 hcl ?_
    refine W.eq (g2 := F0 m 12 ls [.ref q9]) rfl ?_
    refine lv_astore_n (lv' := [(3, .ref q9), (0, .ref (a 0)), (1, .int p0), (2, .ref h0)]) hx hb dL_signature_12 rfl hl (by decide) rfl (fun ls hl => ?_)
    refine lv_iconst (v := 1) hx hb dL_signature_13 (by decide) ?_
    have hP9 := hP.sub (ws' := [(h0, .inl (g 1, 1, .inr (.inl (fun _ => 0))))]) [0] rfl
    have hD9 := hD.sub (ws' := [(h0, .inl (g 1, 1, .inr (.inl (fun _ => 0))))]) [0] (by decide) rfl
    refine W.widen (k := 1) (n := 6) (Nat.le_of_ble_eq_true rfl) (Nat.le_of_ble_eq_true rfl) ?_
    exact W.iret (v := 1) hx hb hr (fun t ht9 hW9 => ⟨⟨1, (), rfl, (Or.inl ⟨rfl, c_1⟩), ⟨(by rw [ht9]; exact hP9), hD9⟩⟩, hS.F ht9⟩) hS.2.2 dL_signature_14 hlocks
  · obtain ⟨rfl, hw⟩ := hw
    have c_2 := hw
    obtain ⟨hP1, hD1⟩ := hB
    rw [ht1] at hP1
    obtain ⟨hP, hD⟩ := va_join (wr := [(h0, .inl (g 1, 1, .inr (.inl (fun _ => 0))))]) (w1 := []) hP hD [1, 2, 3, 4, 5, 6, 7] [0] rfl rfl (by decide) (by decide) hk1 hFc hP1 hD1
    have hP : va_P D vwCl [(h0, .inl (g 1, 1, .inr (.inl (fun _ => 0))))] H := hP
    have hD : va_D (va_A [(h0, .inl (g 1, 1, .inr (.inl (fun _ => 0)))), ((a 0), f_x a), ((a 3), f_rows a), ((a 4), f_words a), ((a 38), .inl (g 1, 12, .inr (.inl (fun _ => 0)))), ((a 39), .inl (g 1, 12, .inr (.inl (fun _ => 0)))), ((a 1), f_net a), ((a 2), f_book a)] s.heap.size) [(h0, .inl (g 1, 1, .inr (.inl (fun _ => 0))))] := hD
    refine lv_i2l (v := 0) hx hb dL_signature_7 (by decide) ?_
    refine va_last hx hb hK.1 hP hD hS 0 1 rfl rfl (by unfold vp_in; decide) dL_signature_8 (fun H locs hP hD hS => ?_)
    have hP : va_P D vwCl [(h0, .inl (g 1, 1, .inr (.inl (vp_updL (fun _ => 0) (0 : Int32).toNatClampNeg 0))))] H := hP
    have hD : va_D (va_A [(h0, .inl (g 1, 1, .inr (.inl (fun _ => 0)))), ((a 0), f_x a), ((a 3), f_rows a), ((a 4), f_words a), ((a 38), .inl (g 1, 12, .inr (.inl (fun _ => 0)))), ((a 39), .inl (g 1, 12, .inr (.inl (fun _ => 0)))), ((a 1), f_net a), ((a 2), f_book a)] s.heap.size) [(h0, .inl (g 1, 1, .inr (.inl (vp_updL (fun _ => 0) (0 : Int32).toNatClampNeg 0))))] := hD
    have hP := one_up (v := 0) hP 0 rfl rfl
    have hD := va_D.set (p := 0) (e := .inl (g 1, 1, .inr (.inl (fun _ => 0)))) hD rfl
    have hP : va_P D vwCl [(h0, .inl (g 1, 1, .inr (.inl (fun _ => 0))))] H := hP
    have hD : va_D (va_A [(h0, .inl (g 1, 1, .inr (.inl (fun _ => 0)))), ((a 0), f_x a), ((a 3), f_rows a), ((a 4), f_words a), ((a 38), .inl (g 1, 12, .inr (.inl (fun _ => 0)))), ((a 39), .inl (g 1, 12, .inr (.inl (fun _ => 0)))), ((a 1), f_net a), ((a 2), f_book a)] s.heap.size) [(h0, .inl (g 1, 1, .inr (.inl (fun _ => 0))))] := hD
    refine lv_goto (tgt := 18) hx hb dL_signature_9 (by decide) ?_
    refine lv_iconst (v := 0) hx hb dL_signature_18 (by decide) ?_
    have hP9 := hP.sub (ws' := [(h0, .inl (g 1, 1, .inr (.inl (fun _ => 0))))]) [0] rfl
    have hD9 := hD.sub (ws' := [(h0, .inl (g 1, 1, .inr (.inl (fun _ => 0))))]) [0] (by decide) rfl
    refine W.widen (k := 1) (n := 6) (Nat.le_of_ble_eq_true rfl) (Nat.le_of_ble_eq_true rfl) ?_
    exact W.iret (v := 0) hx hb hr (fun t ht9 hW9 => ⟨⟨0, (), rfl, (Or.inr ⟨rfl, c_2⟩), ⟨(by rw [ht9]; exact hP9), hD9⟩⟩, hS.F ht9⟩) hS.2.2 dL_signature_19 hlocks
set_option maxHeartbeats 4000000 in
set_option maxRecDepth 100000 in
theorem k_L_slow (l : Launch) (hfl : l.stackTraces = false) (D : va_G) (g : Nat → ClassId) (z0 sz : Nat) (a : Nat → Nat) (p0 : Int32) (p1 : Int32) (h0 : Nat) : Met l yL_slow (.codeWith yL_slow cL_slow 5 (some .int) [(0, 10, 13, 26), (0, 10, 17, 13), (0, 10, 21, 15)] :: TG) (rmk 8 1 6 124) (va_Pc [.ref (a 0), .int p0, .int p1, .ref h0] (PP D g z0 sz [(h0, .inl (g 1, 1, .inr (.inl (fun _ => 0)))), ((a 0), f_x a), ((a 1), f_net a)])) (va_Qi (fun (r : Int32) (u : Unit) => (r = 1) ∧ True) (fun (u : Unit) (t : State) => va_P D vwCl [(h0, .inl (g 1, 1, .inr (.inl (fun _ => 0))))] t.heap ∧ va_D (va_A [(h0, .inl (g 1, 1, .inr (.inl (fun _ => 0)))), ((a 0), f_x a), ((a 1), f_net a)] sz) [(h0, .inl (g 1, 1, .inr (.inl (fun _ => 0))))]) (va_A [(h0, .inl (g 1, 1, .inr (.inl (fun _ => 0)))), ((a 0), f_x a), ((a 1), f_net a)] sz)) 1 6 (va_A [(h0, .inl (g 1, 1, .inr (.inl (fun _ => 0)))), ((a 0), f_x a), ((a 1), f_net a)] sz) := by
  refine metW0 (cc := cL_slow) (n := 5) (hh := [(0, 10, 13, 26), (0, 10, 17, 13), (0, 10, 21, 15)]) (by decide) (Nat.le_of_ble_eq_true rfl) ?_
  intro p e s m args below meth c hx hb hr hml htab hown ht hlocks hnm hP0 hD0 hK hZ hsz hz ls hl
  subst hsz
  have hA : ∀ q : Nat, s.heap.size ≤ q → va_A [(h0, .inl (g 1, 1, .inr (.inl (fun _ => 0)))), ((a 0), f_x a), ((a 1), f_net a)] s.heap.size q := Anw
  have hAz : ∀ q, va_A [(h0, .inl (g 1, 1, .inr (.inl (fun _ => 0)))), ((a 0), f_x a), ((a 1), f_net a)] s.heap.size q → z0 ≤ q := Awz hz hD0
  have hS : va_S (va_A [(h0, .inl (g 1, 1, .inr (.inl (fun _ => 0)))), ((a 0), f_x a), ((a 1), f_net a)] s.heap.size) s.heap s.heap [] := va_S.rf
  have hD : va_D (va_A [(h0, .inl (g 1, 1, .inr (.inl (fun _ => 0)))), ((a 0), f_x a), ((a 1), f_net a)] s.heap.size) [(h0, .inl (g 1, 1, .inr (.inl (fun _ => 0)))), ((a 0), f_x a), ((a 1), f_net a)] := hD0.self
  have hP : va_P D vwCl [(h0, .inl (g 1, 1, .inr (.inl (fun _ => 0)))), ((a 0), f_x a), ((a 1), f_net a)] s.heap := hP0
  have hl : lv_has ls 5 [(0, .ref (a 0)), (1, .int p0), (2, .int p1), (3, .ref h0)] := hl
  refine lv_aload_n hx hb dL_slow_0 rfl (lv_at hl 3 rfl) ?_
  refine lv_iconst (v := 0) hx hb dL_slow_1 (by decide) ?_
  refine lv_aload_n hx hb dL_slow_2 rfl (lv_at hl 0 rfl) ?_
  refine lv_iload_n hx hb dL_slow_3 rfl (lv_at hl 1 rfl) ?_
  refine lv_iload_n hx hb dL_slow_4 rfl (lv_at hl 2 rfl) ?_
  have hPc : va_P D vwCl [((a 0), f_x a), ((a 1), f_net a)] _ := hP.sub (ws' := [((a 0), f_x a), ((a 1), f_net a)]) [1, 2] rfl
  have hDc : va_D (fun q => z0 ≤ q) [((a 0), f_x a), ((a 1), f_net a)] := (hD.to hAz).pick (ws' := [((a 0), f_x a), ((a 1), f_net a)]) [1, 2] (by decide) rfl
  have hFc := AnA (ws := [(h0, .inl (g 1, 1, .inr (.inl (fun _ => 0)))), ((a 0), f_x a), ((a 1), f_net a)]) hS.1
  refine vx_calli (vx_runV (As := [.int p0, .int p1]) (rest := [.int 0, .ref h0]) ⟨hx, hb, hml, hown, ht⟩ (k_X11_slow l hfl D g z0 _ a p0 p1) (cwV 2 ht (gV w_732 w_734 w_735 w_31 w_733) rfl rfl rfl (by decide +kernel) (le2 rfl rfl)) ⟨PP.blind, va_recv hK.1 hP (ci := 17) (q0 := 1) rfl rfl, PP.mk' hK hZ hz hAz hS hPc hDc⟩ rfl rfl hl.1 rfl (lv_room (Nat.le_of_ble_eq_true rfl)) dL_slow_5 (le2 rfl rfl)) hS (fun q _ h => hFc q h) hFc (fun q _ h => hFc q h) (fun E ce q9 u t H locs ht1 hvm hw hB hz1 hk1 hS hcell hv9 hcl => ?_) (fun r u t H locs ht1 hvm hw hB hz1 hk1 hS => ?_)
  · have hP := ro1 hP hk1
    obtain ⟨rfl, hB⟩ := hB
    refine vx_catch hown [] ⟨0, 10, 13, 26⟩ [⟨0, 10, 17, 13⟩, ⟨0, 10, 21, 15⟩] (htab.trans rfl) (fun _ h9 => absurd h9 List.not_mem_nil) (by decide) (by decide) (ht _ w_534) (hK.2.2.use w_535) hcell hv9 hcl ?_
    refine W.eq (g2 := F0 m 13 ls [.ref q9]) rfl ?_
    refine lv_astore (lv' := [(4, .ref q9), (0, .ref (a 0)), (1, .int p0), (2, .int p1), (3, .ref h0)]) hx hb dL_slow_13 hl (by decide) rfl (fun ls hl => ?_)
    refine lv_iconst (v := 1) hx hb dL_slow_15 (by decide) ?_
    have hP9 := hP.sub (ws' := [(h0, .inl (g 1, 1, .inr (.inl (fun _ => 0))))]) [0] rfl
    have hD9 := hD.sub (ws' := [(h0, .inl (g 1, 1, .inr (.inl (fun _ => 0))))]) [0] (by decide) rfl
    refine W.widen (k := 1) (n := 6) (Nat.le_of_ble_eq_true rfl) (Nat.le_of_ble_eq_true rfl) ?_
    exact W.iret (v := 1) hx hb hr (fun t ht9 hW9 => ⟨⟨1, (), rfl, ⟨rfl, trivial⟩, ⟨(by rw [ht9]; exact hP9), hD9⟩⟩, hS.F ht9⟩) hS.2.2 dL_slow_16 hlocks
  · exact hw.elim
set_option maxHeartbeats 4000000 in
set_option maxRecDepth 100000 in
theorem k_L_tally (l : Launch) (hfl : l.stackTraces = false) (D : va_G) (g : Nat → ClassId) (z0 sz : Nat) (a : Nat → Nat) (p0 : Int32) (h0 : Nat) : Met l yL_tally (.codeWith yL_tally cL_tally 4 (some .int) [(0, 9, 12, 26), (0, 9, 15, 24)] :: TG) (rmk 9 1 6 144) (va_Pc [.ref (a 0), .int p0, .ref h0] (PP D g z0 sz [(h0, .inl (g 1, 1, .inr (.inl (fun _ => 0)))), ((a 0), f_x a), ((a 2), f_book a)])) (va_Qi (fun (r : Int32) (u : Unit) => (r = 1) ∧ True) (fun (u : Unit) (t : State) => va_P D vwCl [(h0, .inl (g 1, 1, .inr (.inl (fun _ => 0))))] t.heap ∧ va_D (va_A [(h0, .inl (g 1, 1, .inr (.inl (fun _ => 0)))), ((a 0), f_x a), ((a 2), f_book a)] sz) [(h0, .inl (g 1, 1, .inr (.inl (fun _ => 0))))]) (va_A [(h0, .inl (g 1, 1, .inr (.inl (fun _ => 0)))), ((a 0), f_x a), ((a 2), f_book a)] sz)) 1 6 (va_A [(h0, .inl (g 1, 1, .inr (.inl (fun _ => 0)))), ((a 0), f_x a), ((a 2), f_book a)] sz) := by
  refine metW0 (cc := cL_tally) (n := 4) (hh := [(0, 9, 12, 26), (0, 9, 15, 24)]) (by decide) (Nat.le_of_ble_eq_true rfl) ?_
  intro p e s m args below meth c hx hb hr hml htab hown ht hlocks hnm hP0 hD0 hK hZ hsz hz ls hl
  subst hsz
  have hA : ∀ q : Nat, s.heap.size ≤ q → va_A [(h0, .inl (g 1, 1, .inr (.inl (fun _ => 0)))), ((a 0), f_x a), ((a 2), f_book a)] s.heap.size q := Anw
  have hAz : ∀ q, va_A [(h0, .inl (g 1, 1, .inr (.inl (fun _ => 0)))), ((a 0), f_x a), ((a 2), f_book a)] s.heap.size q → z0 ≤ q := Awz hz hD0
  have hS : va_S (va_A [(h0, .inl (g 1, 1, .inr (.inl (fun _ => 0)))), ((a 0), f_x a), ((a 2), f_book a)] s.heap.size) s.heap s.heap [] := va_S.rf
  have hD : va_D (va_A [(h0, .inl (g 1, 1, .inr (.inl (fun _ => 0)))), ((a 0), f_x a), ((a 2), f_book a)] s.heap.size) [(h0, .inl (g 1, 1, .inr (.inl (fun _ => 0)))), ((a 0), f_x a), ((a 2), f_book a)] := hD0.self
  have hP : va_P D vwCl [(h0, .inl (g 1, 1, .inr (.inl (fun _ => 0)))), ((a 0), f_x a), ((a 2), f_book a)] s.heap := hP0
  have hl : lv_has ls 4 [(0, .ref (a 0)), (1, .int p0), (2, .ref h0)] := hl
  refine lv_aload_n hx hb dL_tally_0 rfl (lv_at hl 2 rfl) ?_
  refine lv_iconst (v := 0) hx hb dL_tally_1 (by decide) ?_
  refine lv_aload_n hx hb dL_tally_2 rfl (lv_at hl 0 rfl) ?_
  refine lv_iload_n hx hb dL_tally_3 rfl (lv_at hl 1 rfl) ?_
  have hPc : va_P D vwCl [((a 0), f_x a), ((a 2), f_book a)] _ := hP.sub (ws' := [((a 0), f_x a), ((a 2), f_book a)]) [1, 2] rfl
  have hDc : va_D (fun q => z0 ≤ q) [((a 0), f_x a), ((a 2), f_book a)] := (hD.to hAz).pick (ws' := [((a 0), f_x a), ((a 2), f_book a)]) [1, 2] (by decide) rfl
  have hFc := AnA (ws := [(h0, .inl (g 1, 1, .inr (.inl (fun _ => 0)))), ((a 0), f_x a), ((a 2), f_book a)]) hS.1
  refine vx_calli (vx_runV (As := [.int p0]) (rest := [.int 0, .ref h0]) ⟨hx, hb, hml, hown, ht⟩ (k_X11_tally l hfl D g z0 _ a p0) (cwV 1 ht (gV w_736 w_738 w_739 w_31 w_737) rfl rfl rfl (by decide +kernel) (le2 rfl rfl)) ⟨PP.blind, va_recv hK.1 hP (ci := 17) (q0 := 1) rfl rfl, PP.mk' hK hZ hz hAz hS hPc hDc⟩ rfl rfl hl.1 rfl (lv_room (Nat.le_of_ble_eq_true rfl)) dL_tally_4 (le2 rfl rfl)) hS (fun q _ h => hFc q h) hFc (fun q _ h => hFc q h) (fun E ce q9 u t H locs ht1 hvm hw hB hz1 hk1 hS hcell hv9 hcl => ?_) (fun r u t H locs ht1 hvm hw hB hz1 hk1 hS => ?_)
  · have hP := ro1 hP hk1
    obtain ⟨rfl, hB⟩ := hB
    refine vx_catch hown [] ⟨0, 9, 12, 26⟩ [⟨0, 9, 15, 24⟩] (htab.trans rfl) (fun _ h9 => absurd h9 List.not_mem_nil) (by decide) (by decide) (ht _ w_534) (hK.2.2.use w_535) hcell hv9 hcl ?_
    refine W.eq (g2 := F0 m 12 ls [.ref q9]) rfl ?_
    refine lv_astore_n (lv' := [(3, .ref q9), (0, .ref (a 0)), (1, .int p0), (2, .ref h0)]) hx hb dL_tally_12 rfl hl (by decide) rfl (fun ls hl => ?_)
    refine lv_iconst (v := 1) hx hb dL_tally_13 (by decide) ?_
    have hP9 := hP.sub (ws' := [(h0, .inl (g 1, 1, .inr (.inl (fun _ => 0))))]) [0] rfl
    have hD9 := hD.sub (ws' := [(h0, .inl (g 1, 1, .inr (.inl (fun _ => 0))))]) [0] (by decide) rfl
    refine W.widen (k := 1) (n := 6) (Nat.le_of_ble_eq_true rfl) (Nat.le_of_ble_eq_true rfl) ?_
    exact W.iret (v := 1) hx hb hr (fun t ht9 hW9 => ⟨⟨1, (), rfl, ⟨rfl, trivial⟩, ⟨(by rw [ht9]; exact hP9), hD9⟩⟩, hS.F ht9⟩) hS.2.2 dL_tally_14 hlocks
  · exact hw.elim
set_option maxHeartbeats 4000000 in
set_option maxRecDepth 100000 in
theorem k_L_testPoint (l : Launch) (hfl : l.stackTraces = false) (D : va_G) (g : Nat → ClassId) (z0 sz : Nat) (a : Nat → Nat) (p0 : Int32) (h0 : Nat) : Met l yL_testPoint (.codeWith yL_testPoint cL_testPoint 4 (some .int) [(0, 9, 12, 26), (0, 9, 15, 13)] :: TG) (rmk 8 1 6 123) (va_Pc [.ref (a 0), .int p0, .ref h0] (PP D g z0 sz [(h0, .inl (g 1, 1, .inr (.inl (fun _ => 0)))), ((a 0), f_x a), ((a 1), f_net a)])) (va_Qi (fun (r : Int32) (u : Unit) => (r = 1) ∧ True) (fun (u : Unit) (t : State) => va_P D vwCl [(h0, .inl (g 1, 1, .inr (.inl (fun _ => 0))))] t.heap ∧ va_D (va_A [(h0, .inl (g 1, 1, .inr (.inl (fun _ => 0)))), ((a 0), f_x a), ((a 1), f_net a)] sz) [(h0, .inl (g 1, 1, .inr (.inl (fun _ => 0))))]) (va_A [(h0, .inl (g 1, 1, .inr (.inl (fun _ => 0)))), ((a 0), f_x a), ((a 1), f_net a)] sz)) 1 6 (va_A [(h0, .inl (g 1, 1, .inr (.inl (fun _ => 0)))), ((a 0), f_x a), ((a 1), f_net a)] sz) := by
  refine metW0 (cc := cL_testPoint) (n := 4) (hh := [(0, 9, 12, 26), (0, 9, 15, 13)]) (by decide) (Nat.le_of_ble_eq_true rfl) ?_
  intro p e s m args below meth c hx hb hr hml htab hown ht hlocks hnm hP0 hD0 hK hZ hsz hz ls hl
  subst hsz
  have hA : ∀ q : Nat, s.heap.size ≤ q → va_A [(h0, .inl (g 1, 1, .inr (.inl (fun _ => 0)))), ((a 0), f_x a), ((a 1), f_net a)] s.heap.size q := Anw
  have hAz : ∀ q, va_A [(h0, .inl (g 1, 1, .inr (.inl (fun _ => 0)))), ((a 0), f_x a), ((a 1), f_net a)] s.heap.size q → z0 ≤ q := Awz hz hD0
  have hS : va_S (va_A [(h0, .inl (g 1, 1, .inr (.inl (fun _ => 0)))), ((a 0), f_x a), ((a 1), f_net a)] s.heap.size) s.heap s.heap [] := va_S.rf
  have hD : va_D (va_A [(h0, .inl (g 1, 1, .inr (.inl (fun _ => 0)))), ((a 0), f_x a), ((a 1), f_net a)] s.heap.size) [(h0, .inl (g 1, 1, .inr (.inl (fun _ => 0)))), ((a 0), f_x a), ((a 1), f_net a)] := hD0.self
  have hP : va_P D vwCl [(h0, .inl (g 1, 1, .inr (.inl (fun _ => 0)))), ((a 0), f_x a), ((a 1), f_net a)] s.heap := hP0
  have hl : lv_has ls 4 [(0, .ref (a 0)), (1, .int p0), (2, .ref h0)] := hl
  refine lv_aload_n hx hb dL_testPoint_0 rfl (lv_at hl 2 rfl) ?_
  refine lv_iconst (v := 0) hx hb dL_testPoint_1 (by decide) ?_
  refine lv_aload_n hx hb dL_testPoint_2 rfl (lv_at hl 0 rfl) ?_
  refine lv_iload_n hx hb dL_testPoint_3 rfl (lv_at hl 1 rfl) ?_
  have hPc : va_P D vwCl [((a 0), f_x a), ((a 1), f_net a)] _ := hP.sub (ws' := [((a 0), f_x a), ((a 1), f_net a)]) [1, 2] rfl
  have hDc : va_D (fun q => z0 ≤ q) [((a 0), f_x a), ((a 1), f_net a)] := (hD.to hAz).pick (ws' := [((a 0), f_x a), ((a 1), f_net a)]) [1, 2] (by decide) rfl
  have hFc := AnA (ws := [(h0, .inl (g 1, 1, .inr (.inl (fun _ => 0)))), ((a 0), f_x a), ((a 1), f_net a)]) hS.1
  refine vx_calli (vx_runV (As := [.int p0]) (rest := [.int 0, .ref h0]) ⟨hx, hb, hml, hown, ht⟩ (k_X11_testPoint l hfl D g z0 _ a p0) (cwV 1 ht (gV w_740 w_742 w_743 w_31 w_741) rfl rfl rfl (by decide +kernel) (le2 rfl rfl)) ⟨PP.blind, va_recv hK.1 hP (ci := 17) (q0 := 1) rfl rfl, PP.mk' hK hZ hz hAz hS hPc hDc⟩ rfl rfl hl.1 rfl (lv_room (Nat.le_of_ble_eq_true rfl)) dL_testPoint_4 (le2 rfl rfl)) hS (fun q _ h => hFc q h) hFc (fun q _ h => hFc q h) (fun E ce q9 u t H locs ht1 hvm hw hB hz1 hk1 hS hcell hv9 hcl => ?_) (fun r u t H locs ht1 hvm hw hB hz1 hk1 hS => ?_)
  · have hP := ro1 hP hk1
    obtain ⟨rfl, hB⟩ := hB
    refine vx_catch hown [] ⟨0, 9, 12, 26⟩ [⟨0, 9, 15, 13⟩] (htab.trans rfl) (fun _ h9 => absurd h9 List.not_mem_nil) (by decide) (by decide) (ht _ w_534) (hK.2.2.use w_535) hcell hv9 hcl ?_
    refine W.eq (g2 := F0 m 12 ls [.ref q9]) rfl ?_
    refine lv_astore_n (lv' := [(3, .ref q9), (0, .ref (a 0)), (1, .int p0), (2, .ref h0)]) hx hb dL_testPoint_12 rfl hl (by decide) rfl (fun ls hl => ?_)
    refine lv_iconst (v := 1) hx hb dL_testPoint_13 (by decide) ?_
    have hP9 := hP.sub (ws' := [(h0, .inl (g 1, 1, .inr (.inl (fun _ => 0))))]) [0] rfl
    have hD9 := hD.sub (ws' := [(h0, .inl (g 1, 1, .inr (.inl (fun _ => 0))))]) [0] (by decide) rfl
    refine W.widen (k := 1) (n := 6) (Nat.le_of_ble_eq_true rfl) (Nat.le_of_ble_eq_true rfl) ?_
    exact W.iret (v := 1) hx hb hr (fun t ht9 hW9 => ⟨⟨1, (), rfl, ⟨rfl, trivial⟩, ⟨(by rw [ht9]; exact hP9), hD9⟩⟩, hS.F ht9⟩) hS.2.2 dL_testPoint_14 hlocks
  · exact hw.elim
set_option maxHeartbeats 4000000 in
set_option maxRecDepth 100000 in
theorem k_L_tie (l : Launch) (hfl : l.stackTraces = false) (D : va_G) (g : Nat → ClassId) (z0 sz : Nat) (a : Nat → Nat) (p0 : Int32) (h0 : Nat) : Met l yL_tie (.codeWith yL_tie cL_tie 4 (some .int) [(0, 9, 12, 26), (0, 9, 15, 24), (0, 9, 18, 13)] :: TG) (rmk 9 1 6 145) (va_Pc [.ref (a 0), .int p0, .ref h0] (PP D g z0 sz [(h0, .inl (g 1, 1, .inr (.inl (fun _ => 0)))), ((a 0), f_x a), ((a 2), f_book a)])) (va_Qi (fun (r : Int32) (u : Unit) => (r = 1) ∧ True) (fun (u : Unit) (t : State) => va_P D vwCl [(h0, .inl (g 1, 1, .inr (.inl (fun _ => 0))))] t.heap ∧ va_D (va_A [(h0, .inl (g 1, 1, .inr (.inl (fun _ => 0)))), ((a 0), f_x a), ((a 2), f_book a)] sz) [(h0, .inl (g 1, 1, .inr (.inl (fun _ => 0))))]) (va_A [(h0, .inl (g 1, 1, .inr (.inl (fun _ => 0)))), ((a 0), f_x a), ((a 2), f_book a)] sz)) 1 6 (va_A [(h0, .inl (g 1, 1, .inr (.inl (fun _ => 0)))), ((a 0), f_x a), ((a 2), f_book a)] sz) := by
  refine metW0 (cc := cL_tie) (n := 4) (hh := [(0, 9, 12, 26), (0, 9, 15, 24), (0, 9, 18, 13)]) (by decide) (Nat.le_of_ble_eq_true rfl) ?_
  intro p e s m args below meth c hx hb hr hml htab hown ht hlocks hnm hP0 hD0 hK hZ hsz hz ls hl
  subst hsz
  have hA : ∀ q : Nat, s.heap.size ≤ q → va_A [(h0, .inl (g 1, 1, .inr (.inl (fun _ => 0)))), ((a 0), f_x a), ((a 2), f_book a)] s.heap.size q := Anw
  have hAz : ∀ q, va_A [(h0, .inl (g 1, 1, .inr (.inl (fun _ => 0)))), ((a 0), f_x a), ((a 2), f_book a)] s.heap.size q → z0 ≤ q := Awz hz hD0
  have hS : va_S (va_A [(h0, .inl (g 1, 1, .inr (.inl (fun _ => 0)))), ((a 0), f_x a), ((a 2), f_book a)] s.heap.size) s.heap s.heap [] := va_S.rf
  have hD : va_D (va_A [(h0, .inl (g 1, 1, .inr (.inl (fun _ => 0)))), ((a 0), f_x a), ((a 2), f_book a)] s.heap.size) [(h0, .inl (g 1, 1, .inr (.inl (fun _ => 0)))), ((a 0), f_x a), ((a 2), f_book a)] := hD0.self
  have hP : va_P D vwCl [(h0, .inl (g 1, 1, .inr (.inl (fun _ => 0)))), ((a 0), f_x a), ((a 2), f_book a)] s.heap := hP0
  have hl : lv_has ls 4 [(0, .ref (a 0)), (1, .int p0), (2, .ref h0)] := hl
  refine lv_aload_n hx hb dL_tie_0 rfl (lv_at hl 2 rfl) ?_
  refine lv_iconst (v := 0) hx hb dL_tie_1 (by decide) ?_
  refine lv_aload_n hx hb dL_tie_2 rfl (lv_at hl 0 rfl) ?_
  refine lv_iload_n hx hb dL_tie_3 rfl (lv_at hl 1 rfl) ?_
  have hPc : va_P D vwCl [((a 0), f_x a), ((a 2), f_book a)] _ := hP.sub (ws' := [((a 0), f_x a), ((a 2), f_book a)]) [1, 2] rfl
  have hDc : va_D (fun q => z0 ≤ q) [((a 0), f_x a), ((a 2), f_book a)] := (hD.to hAz).pick (ws' := [((a 0), f_x a), ((a 2), f_book a)]) [1, 2] (by decide) rfl
  have hFc := AnA (ws := [(h0, .inl (g 1, 1, .inr (.inl (fun _ => 0)))), ((a 0), f_x a), ((a 2), f_book a)]) hS.1
  refine vx_calli (vx_runV (As := [.int p0]) (rest := [.int 0, .ref h0]) ⟨hx, hb, hml, hown, ht⟩ (k_X11_tie l hfl D g z0 _ a p0) (cwV 1 ht (gV w_744 w_746 w_747 w_31 w_745) rfl rfl rfl (by decide +kernel) (le2 rfl rfl)) ⟨PP.blind, va_recv hK.1 hP (ci := 17) (q0 := 1) rfl rfl, PP.mk' hK hZ hz hAz hS hPc hDc⟩ rfl rfl hl.1 rfl (lv_room (Nat.le_of_ble_eq_true rfl)) dL_tie_4 (le2 rfl rfl)) hS (fun q _ h => hFc q h) hFc (fun q _ h => hFc q h) (fun E ce q9 u t H locs ht1 hvm hw hB hz1 hk1 hS hcell hv9 hcl => ?_) (fun r u t H locs ht1 hvm hw hB hz1 hk1 hS => ?_)
  · have hP := ro1 hP hk1
    obtain ⟨rfl, hB⟩ := hB
    refine vx_catch hown [] ⟨0, 9, 12, 26⟩ [⟨0, 9, 15, 24⟩, ⟨0, 9, 18, 13⟩] (htab.trans rfl) (fun _ h9 => absurd h9 List.not_mem_nil) (by decide) (by decide) (ht _ w_534) (hK.2.2.use w_535) hcell hv9 hcl ?_
    refine W.eq (g2 := F0 m 12 ls [.ref q9]) rfl ?_
    refine lv_astore_n (lv' := [(3, .ref q9), (0, .ref (a 0)), (1, .int p0), (2, .ref h0)]) hx hb dL_tie_12 rfl hl (by decide) rfl (fun ls hl => ?_)
    refine lv_iconst (v := 1) hx hb dL_tie_13 (by decide) ?_
    have hP9 := hP.sub (ws' := [(h0, .inl (g 1, 1, .inr (.inl (fun _ => 0))))]) [0] rfl
    have hD9 := hD.sub (ws' := [(h0, .inl (g 1, 1, .inr (.inl (fun _ => 0))))]) [0] (by decide) rfl
    refine W.widen (k := 1) (n := 6) (Nat.le_of_ble_eq_true rfl) (Nat.le_of_ble_eq_true rfl) ?_
    exact W.iret (v := 1) hx hb hr (fun t ht9 hW9 => ⟨⟨1, (), rfl, ⟨rfl, trivial⟩, ⟨(by rw [ht9]; exact hP9), hD9⟩⟩, hS.F ht9⟩) hS.2.2 dL_tie_14 hlocks
  · exact hw.elim
set_option maxHeartbeats 4000000 in
set_option maxRecDepth 100000 in
theorem k_L_value (l : Launch) (hfl : l.stackTraces = false) (D : va_G) (g : Nat → ClassId) (z0 sz : Nat) (a : Nat → Nat) (p0 : Int32) (p1 : Int32) (h0 : Nat) : Met l yL_value (.codeWith yL_value cL_value 5 (some .int) [(0, 10, 13, 26)] :: TG) (rmk 8 1 6 124) (va_Pc [.ref (a 0), .int p0, .int p1, .ref h0] (PP D g z0 sz [(h0, .inl (g 1, 1, .inr (.inl (fun _ => 0)))), ((a 0), f_x a), ((a 3), f_rows a)])) (va_Qi (fun (r : Int32) (u : Unit) => (r = 1) ∧ True) (fun (u : Unit) (t : State) => va_P D vwCl [(h0, .inl (g 1, 1, .inr (.inl (fun _ => 0))))] t.heap ∧ va_D (va_A [(h0, .inl (g 1, 1, .inr (.inl (fun _ => 0)))), ((a 0), f_x a), ((a 3), f_rows a)] sz) [(h0, .inl (g 1, 1, .inr (.inl (fun _ => 0))))]) (va_A [(h0, .inl (g 1, 1, .inr (.inl (fun _ => 0)))), ((a 0), f_x a), ((a 3), f_rows a)] sz)) 1 6 (va_A [(h0, .inl (g 1, 1, .inr (.inl (fun _ => 0)))), ((a 0), f_x a), ((a 3), f_rows a)] sz) := by
  refine metW0 (cc := cL_value) (n := 5) (hh := [(0, 10, 13, 26)]) (by decide) (Nat.le_of_ble_eq_true rfl) ?_
  intro p e s m args below meth c hx hb hr hml htab hown ht hlocks hnm hP0 hD0 hK hZ hsz hz ls hl
  subst hsz
  have hA : ∀ q : Nat, s.heap.size ≤ q → va_A [(h0, .inl (g 1, 1, .inr (.inl (fun _ => 0)))), ((a 0), f_x a), ((a 3), f_rows a)] s.heap.size q := Anw
  have hAz : ∀ q, va_A [(h0, .inl (g 1, 1, .inr (.inl (fun _ => 0)))), ((a 0), f_x a), ((a 3), f_rows a)] s.heap.size q → z0 ≤ q := Awz hz hD0
  have hS : va_S (va_A [(h0, .inl (g 1, 1, .inr (.inl (fun _ => 0)))), ((a 0), f_x a), ((a 3), f_rows a)] s.heap.size) s.heap s.heap [] := va_S.rf
  have hD : va_D (va_A [(h0, .inl (g 1, 1, .inr (.inl (fun _ => 0)))), ((a 0), f_x a), ((a 3), f_rows a)] s.heap.size) [(h0, .inl (g 1, 1, .inr (.inl (fun _ => 0)))), ((a 0), f_x a), ((a 3), f_rows a)] := hD0.self
  have hP : va_P D vwCl [(h0, .inl (g 1, 1, .inr (.inl (fun _ => 0)))), ((a 0), f_x a), ((a 3), f_rows a)] s.heap := hP0
  have hl : lv_has ls 5 [(0, .ref (a 0)), (1, .int p0), (2, .int p1), (3, .ref h0)] := hl
  refine lv_aload_n hx hb dL_value_0 rfl (lv_at hl 3 rfl) ?_
  refine lv_iconst (v := 0) hx hb dL_value_1 (by decide) ?_
  refine lv_aload_n hx hb dL_value_2 rfl (lv_at hl 0 rfl) ?_
  refine lv_iload_n hx hb dL_value_3 rfl (lv_at hl 1 rfl) ?_
  refine lv_iload_n hx hb dL_value_4 rfl (lv_at hl 2 rfl) ?_
  have hPc : va_P D vwCl [((a 0), f_x a), ((a 3), f_rows a)] _ := hP.sub (ws' := [((a 0), f_x a), ((a 3), f_rows a)]) [1, 2] rfl
  have hDc : va_D (fun q => z0 ≤ q) [((a 0), f_x a), ((a 3), f_rows a)] := (hD.to hAz).pick (ws' := [((a 0), f_x a), ((a 3), f_rows a)]) [1, 2] (by decide) rfl
  have hFc := AnA (ws := [(h0, .inl (g 1, 1, .inr (.inl (fun _ => 0)))), ((a 0), f_x a), ((a 3), f_rows a)]) hS.1
  refine vx_calli (vx_runV (As := [.int p0, .int p1]) (rest := [.int 0, .ref h0]) ⟨hx, hb, hml, hown, ht⟩ (k_X11_value l hfl D g z0 _ a p0 p1) (cwV 2 ht (gV w_748 w_750 w_751 w_31 w_749) rfl rfl rfl (by decide +kernel) (le2 rfl rfl)) ⟨PP.blind, va_recv hK.1 hP (ci := 17) (q0 := 1) rfl rfl, PP.mk' hK hZ hz hAz hS hPc hDc⟩ rfl rfl hl.1 rfl (lv_room (Nat.le_of_ble_eq_true rfl)) dL_value_5 (le2 rfl rfl)) hS (fun q _ h => hFc q h) hFc (fun q _ h => hFc q h) (fun E ce q9 u t H locs ht1 hvm hw hB hz1 hk1 hS hcell hv9 hcl => ?_) (fun r u t H locs ht1 hvm hw hB hz1 hk1 hS => ?_)
  · have hP := ro1 hP hk1
    obtain ⟨rfl, hB⟩ := hB
    refine vx_catch hown [] ⟨0, 10, 13, 26⟩ [] (htab.trans rfl) (fun _ h9 => absurd h9 List.not_mem_nil) (by decide) (by decide) (ht _ w_534) (hK.2.2.use w_535) hcell hv9 hcl ?_
    refine W.eq (g2 := F0 m 13 ls [.ref q9]) rfl ?_
    refine lv_astore (lv' := [(4, .ref q9), (0, .ref (a 0)), (1, .int p0), (2, .int p1), (3, .ref h0)]) hx hb dL_value_13 hl (by decide) rfl (fun ls hl => ?_)
    refine lv_iconst (v := 1) hx hb dL_value_15 (by decide) ?_
    have hP9 := hP.sub (ws' := [(h0, .inl (g 1, 1, .inr (.inl (fun _ => 0))))]) [0] rfl
    have hD9 := hD.sub (ws' := [(h0, .inl (g 1, 1, .inr (.inl (fun _ => 0))))]) [0] (by decide) rfl
    refine W.widen (k := 1) (n := 6) (Nat.le_of_ble_eq_true rfl) (Nat.le_of_ble_eq_true rfl) ?_
    exact W.iret (v := 1) hx hb hr (fun t ht9 hW9 => ⟨⟨1, (), rfl, ⟨rfl, trivial⟩, ⟨(by rw [ht9]; exact hP9), hD9⟩⟩, hS.F ht9⟩) hS.2.2 dL_value_16 hlocks
  · exact hw.elim
set_option maxHeartbeats 4000000 in
set_option maxRecDepth 100000 in
theorem k_L_ways (l : Launch) (hfl : l.stackTraces = false) (D : va_G) (g : Nat → ClassId) (z0 sz : Nat) (a : Nat → Nat) (p0 : Int32) (h0 : Nat) : Met l yL_ways (.codeWith yL_ways cL_ways 4 (some .int) [(0, 9, 12, 26), (0, 9, 15, 24)] :: TG) (rmk 9 1 6 144) (va_Pc [.ref (a 0), .int p0, .ref h0] (PP D g z0 sz [(h0, .inl (g 1, 1, .inr (.inl (fun _ => 0)))), ((a 0), f_x a), ((a 2), f_book a)])) (va_Qi (fun (r : Int32) (u : Unit) => (r = 1) ∧ True) (fun (u : Unit) (t : State) => va_P D vwCl [(h0, .inl (g 1, 1, .inr (.inl (fun _ => 0))))] t.heap ∧ va_D (va_A [(h0, .inl (g 1, 1, .inr (.inl (fun _ => 0)))), ((a 0), f_x a), ((a 2), f_book a)] sz) [(h0, .inl (g 1, 1, .inr (.inl (fun _ => 0))))]) (va_A [(h0, .inl (g 1, 1, .inr (.inl (fun _ => 0)))), ((a 0), f_x a), ((a 2), f_book a)] sz)) 1 6 (va_A [(h0, .inl (g 1, 1, .inr (.inl (fun _ => 0)))), ((a 0), f_x a), ((a 2), f_book a)] sz) := by
  refine metW0 (cc := cL_ways) (n := 4) (hh := [(0, 9, 12, 26), (0, 9, 15, 24)]) (by decide) (Nat.le_of_ble_eq_true rfl) ?_
  intro p e s m args below meth c hx hb hr hml htab hown ht hlocks hnm hP0 hD0 hK hZ hsz hz ls hl
  subst hsz
  have hA : ∀ q : Nat, s.heap.size ≤ q → va_A [(h0, .inl (g 1, 1, .inr (.inl (fun _ => 0)))), ((a 0), f_x a), ((a 2), f_book a)] s.heap.size q := Anw
  have hAz : ∀ q, va_A [(h0, .inl (g 1, 1, .inr (.inl (fun _ => 0)))), ((a 0), f_x a), ((a 2), f_book a)] s.heap.size q → z0 ≤ q := Awz hz hD0
  have hS : va_S (va_A [(h0, .inl (g 1, 1, .inr (.inl (fun _ => 0)))), ((a 0), f_x a), ((a 2), f_book a)] s.heap.size) s.heap s.heap [] := va_S.rf
  have hD : va_D (va_A [(h0, .inl (g 1, 1, .inr (.inl (fun _ => 0)))), ((a 0), f_x a), ((a 2), f_book a)] s.heap.size) [(h0, .inl (g 1, 1, .inr (.inl (fun _ => 0)))), ((a 0), f_x a), ((a 2), f_book a)] := hD0.self
  have hP : va_P D vwCl [(h0, .inl (g 1, 1, .inr (.inl (fun _ => 0)))), ((a 0), f_x a), ((a 2), f_book a)] s.heap := hP0
  have hl : lv_has ls 4 [(0, .ref (a 0)), (1, .int p0), (2, .ref h0)] := hl
  refine lv_aload_n hx hb dL_ways_0 rfl (lv_at hl 2 rfl) ?_
  refine lv_iconst (v := 0) hx hb dL_ways_1 (by decide) ?_
  refine lv_aload_n hx hb dL_ways_2 rfl (lv_at hl 0 rfl) ?_
  refine lv_iload_n hx hb dL_ways_3 rfl (lv_at hl 1 rfl) ?_
  have hPc : va_P D vwCl [((a 0), f_x a), ((a 2), f_book a)] _ := hP.sub (ws' := [((a 0), f_x a), ((a 2), f_book a)]) [1, 2] rfl
  have hDc : va_D (fun q => z0 ≤ q) [((a 0), f_x a), ((a 2), f_book a)] := (hD.to hAz).pick (ws' := [((a 0), f_x a), ((a 2), f_book a)]) [1, 2] (by decide) rfl
  have hFc := AnA (ws := [(h0, .inl (g 1, 1, .inr (.inl (fun _ => 0)))), ((a 0), f_x a), ((a 2), f_book a)]) hS.1
  refine vx_calli (vx_runV (As := [.int p0]) (rest := [.int 0, .ref h0]) ⟨hx, hb, hml, hown, ht⟩ (k_X11_ways l hfl D g z0 _ a p0) (cwV 1 ht (gV w_752 w_754 w_755 w_31 w_753) rfl rfl rfl (by decide +kernel) (le2 rfl rfl)) ⟨PP.blind, va_recv hK.1 hP (ci := 17) (q0 := 1) rfl rfl, PP.mk' hK hZ hz hAz hS hPc hDc⟩ rfl rfl hl.1 rfl (lv_room (Nat.le_of_ble_eq_true rfl)) dL_ways_4 (le2 rfl rfl)) hS (fun q _ h => hFc q h) hFc (fun q _ h => hFc q h) (fun E ce q9 u t H locs ht1 hvm hw hB hz1 hk1 hS hcell hv9 hcl => ?_) (fun r u t H locs ht1 hvm hw hB hz1 hk1 hS => ?_)
  · have hP := ro1 hP hk1
    obtain ⟨rfl, hB⟩ := hB
    refine vx_catch hown [] ⟨0, 9, 12, 26⟩ [⟨0, 9, 15, 24⟩] (htab.trans rfl) (fun _ h9 => absurd h9 List.not_mem_nil) (by decide) (by decide) (ht _ w_534) (hK.2.2.use w_535) hcell hv9 hcl ?_
    refine W.eq (g2 := F0 m 12 ls [.ref q9]) rfl ?_
    refine lv_astore_n (lv' := [(3, .ref q9), (0, .ref (a 0)), (1, .int p0), (2, .ref h0)]) hx hb dL_ways_12 rfl hl (by decide) rfl (fun ls hl => ?_)
    refine lv_iconst (v := 1) hx hb dL_ways_13 (by decide) ?_
    have hP9 := hP.sub (ws' := [(h0, .inl (g 1, 1, .inr (.inl (fun _ => 0))))]) [0] rfl
    have hD9 := hD.sub (ws' := [(h0, .inl (g 1, 1, .inr (.inl (fun _ => 0))))]) [0] (by decide) rfl
    refine W.widen (k := 1) (n := 6) (Nat.le_of_ble_eq_true rfl) (Nat.le_of_ble_eq_true rfl) ?_
    exact W.iret (v := 1) hx hb hr (fun t ht9 hW9 => ⟨⟨1, (), rfl, ⟨rfl, trivial⟩, ⟨(by rw [ht9]; exact hP9), hD9⟩⟩, hS.F ht9⟩) hS.2.2 dL_ways_14 hlocks
  · exact hw.elim
set_option maxHeartbeats 4000000 in
set_option maxRecDepth 100000 in
theorem k_L_weight (l : Launch) (hfl : l.stackTraces = false) (D : va_G) (g : Nat → ClassId) (z0 sz : Nat) (a : Nat → Nat) (p0 : Int32) (h0 : Nat) : Met l yL_weight (.codeWith yL_weight cL_weight 4 (some .int) [(0, 9, 12, 26), (0, 9, 15, 13)] :: TG) (rmk 8 1 6 123) (va_Pc [.ref (a 0), .int p0, .ref h0] (PP D g z0 sz [(h0, .inl (g 1, 1, .inr (.inl (fun _ => 0)))), ((a 0), f_x a), ((a 1), f_net a)])) (va_Qi (fun (r : Int32) (u : Unit) => (r = 1) ∧ True) (fun (u : Unit) (t : State) => va_P D vwCl [(h0, .inl (g 1, 1, .inr (.inl (fun _ => 0))))] t.heap ∧ va_D (va_A [(h0, .inl (g 1, 1, .inr (.inl (fun _ => 0)))), ((a 0), f_x a), ((a 1), f_net a)] sz) [(h0, .inl (g 1, 1, .inr (.inl (fun _ => 0))))]) (va_A [(h0, .inl (g 1, 1, .inr (.inl (fun _ => 0)))), ((a 0), f_x a), ((a 1), f_net a)] sz)) 1 6 (va_A [(h0, .inl (g 1, 1, .inr (.inl (fun _ => 0)))), ((a 0), f_x a), ((a 1), f_net a)] sz) := by
  refine metW0 (cc := cL_weight) (n := 4) (hh := [(0, 9, 12, 26), (0, 9, 15, 13)]) (by decide) (Nat.le_of_ble_eq_true rfl) ?_
  intro p e s m args below meth c hx hb hr hml htab hown ht hlocks hnm hP0 hD0 hK hZ hsz hz ls hl
  subst hsz
  have hA : ∀ q : Nat, s.heap.size ≤ q → va_A [(h0, .inl (g 1, 1, .inr (.inl (fun _ => 0)))), ((a 0), f_x a), ((a 1), f_net a)] s.heap.size q := Anw
  have hAz : ∀ q, va_A [(h0, .inl (g 1, 1, .inr (.inl (fun _ => 0)))), ((a 0), f_x a), ((a 1), f_net a)] s.heap.size q → z0 ≤ q := Awz hz hD0
  have hS : va_S (va_A [(h0, .inl (g 1, 1, .inr (.inl (fun _ => 0)))), ((a 0), f_x a), ((a 1), f_net a)] s.heap.size) s.heap s.heap [] := va_S.rf
  have hD : va_D (va_A [(h0, .inl (g 1, 1, .inr (.inl (fun _ => 0)))), ((a 0), f_x a), ((a 1), f_net a)] s.heap.size) [(h0, .inl (g 1, 1, .inr (.inl (fun _ => 0)))), ((a 0), f_x a), ((a 1), f_net a)] := hD0.self
  have hP : va_P D vwCl [(h0, .inl (g 1, 1, .inr (.inl (fun _ => 0)))), ((a 0), f_x a), ((a 1), f_net a)] s.heap := hP0
  have hl : lv_has ls 4 [(0, .ref (a 0)), (1, .int p0), (2, .ref h0)] := hl
  refine lv_aload_n hx hb dL_weight_0 rfl (lv_at hl 2 rfl) ?_
  refine lv_iconst (v := 0) hx hb dL_weight_1 (by decide) ?_
  refine lv_aload_n hx hb dL_weight_2 rfl (lv_at hl 0 rfl) ?_
  refine lv_iload_n hx hb dL_weight_3 rfl (lv_at hl 1 rfl) ?_
  have hPc : va_P D vwCl [((a 0), f_x a), ((a 1), f_net a)] _ := hP.sub (ws' := [((a 0), f_x a), ((a 1), f_net a)]) [1, 2] rfl
  have hDc : va_D (fun q => z0 ≤ q) [((a 0), f_x a), ((a 1), f_net a)] := (hD.to hAz).pick (ws' := [((a 0), f_x a), ((a 1), f_net a)]) [1, 2] (by decide) rfl
  have hFc := AnA (ws := [(h0, .inl (g 1, 1, .inr (.inl (fun _ => 0)))), ((a 0), f_x a), ((a 1), f_net a)]) hS.1
  refine vx_calli (vx_runV (As := [.int p0]) (rest := [.int 0, .ref h0]) ⟨hx, hb, hml, hown, ht⟩ (k_X11_weight l hfl D g z0 _ a p0) (cwV 1 ht (gV w_756 w_758 w_759 w_31 w_757) rfl rfl rfl (by decide +kernel) (le2 rfl rfl)) ⟨PP.blind, va_recv hK.1 hP (ci := 17) (q0 := 1) rfl rfl, PP.mk' hK hZ hz hAz hS hPc hDc⟩ rfl rfl hl.1 rfl (lv_room (Nat.le_of_ble_eq_true rfl)) dL_weight_4 (le2 rfl rfl)) hS (fun q _ h => hFc q h) hFc (fun q _ h => hFc q h) (fun E ce q9 u t H locs ht1 hvm hw hB hz1 hk1 hS hcell hv9 hcl => ?_) (fun r u t H locs ht1 hvm hw hB hz1 hk1 hS => ?_)
  · have hP := ro1 hP hk1
    obtain ⟨rfl, hB⟩ := hB
    refine vx_catch hown [] ⟨0, 9, 12, 26⟩ [⟨0, 9, 15, 13⟩] (htab.trans rfl) (fun _ h9 => absurd h9 List.not_mem_nil) (by decide) (by decide) (ht _ w_534) (hK.2.2.use w_535) hcell hv9 hcl ?_
    refine W.eq (g2 := F0 m 12 ls [.ref q9]) rfl ?_
    refine lv_astore_n (lv' := [(3, .ref q9), (0, .ref (a 0)), (1, .int p0), (2, .ref h0)]) hx hb dL_weight_12 rfl hl (by decide) rfl (fun ls hl => ?_)
    refine lv_iconst (v := 1) hx hb dL_weight_13 (by decide) ?_
    have hP9 := hP.sub (ws' := [(h0, .inl (g 1, 1, .inr (.inl (fun _ => 0))))]) [0] rfl
    have hD9 := hD.sub (ws' := [(h0, .inl (g 1, 1, .inr (.inl (fun _ => 0))))]) [0] (by decide) rfl
    refine W.widen (k := 1) (n := 6) (Nat.le_of_ble_eq_true rfl) (Nat.le_of_ble_eq_true rfl) ?_
    exact W.iret (v := 1) hx hb hr (fun t ht9 hW9 => ⟨⟨1, (), rfl, ⟨rfl, trivial⟩, ⟨(by rw [ht9]; exact hP9), hD9⟩⟩, hS.F ht9⟩) hS.2.2 dL_weight_14 hlocks
  · exact hw.elim
set_option maxHeartbeats 4000000 in
set_option maxRecDepth 100000 in
theorem k_L_wrong (l : Launch) (hfl : l.stackTraces = false) (D : va_G) (g : Nat → ClassId) (z0 sz : Nat) (a : Nat → Nat) (p0 : Int32) (h0 : Nat) : Met l yL_wrong (.codeWith yL_wrong cL_wrong 4 (some .int) [(0, 9, 12, 26), (0, 9, 15, 24)] :: TG) (rmk 9 1 6 144) (va_Pc [.ref (a 0), .int p0, .ref h0] (PP D g z0 sz [(h0, .inl (g 1, 1, .inr (.inl (fun _ => 0)))), ((a 0), f_x a), ((a 2), f_book a)])) (va_Qi (fun (r : Int32) (u : Unit) => (r = 1) ∧ True) (fun (u : Unit) (t : State) => va_P D vwCl [(h0, .inl (g 1, 1, .inr (.inl (fun _ => 0))))] t.heap ∧ va_D (va_A [(h0, .inl (g 1, 1, .inr (.inl (fun _ => 0)))), ((a 0), f_x a), ((a 2), f_book a)] sz) [(h0, .inl (g 1, 1, .inr (.inl (fun _ => 0))))]) (va_A [(h0, .inl (g 1, 1, .inr (.inl (fun _ => 0)))), ((a 0), f_x a), ((a 2), f_book a)] sz)) 1 6 (va_A [(h0, .inl (g 1, 1, .inr (.inl (fun _ => 0)))), ((a 0), f_x a), ((a 2), f_book a)] sz) := by
  refine metW0 (cc := cL_wrong) (n := 4) (hh := [(0, 9, 12, 26), (0, 9, 15, 24)]) (by decide) (Nat.le_of_ble_eq_true rfl) ?_
  intro p e s m args below meth c hx hb hr hml htab hown ht hlocks hnm hP0 hD0 hK hZ hsz hz ls hl
  subst hsz
  have hA : ∀ q : Nat, s.heap.size ≤ q → va_A [(h0, .inl (g 1, 1, .inr (.inl (fun _ => 0)))), ((a 0), f_x a), ((a 2), f_book a)] s.heap.size q := Anw
  have hAz : ∀ q, va_A [(h0, .inl (g 1, 1, .inr (.inl (fun _ => 0)))), ((a 0), f_x a), ((a 2), f_book a)] s.heap.size q → z0 ≤ q := Awz hz hD0
  have hS : va_S (va_A [(h0, .inl (g 1, 1, .inr (.inl (fun _ => 0)))), ((a 0), f_x a), ((a 2), f_book a)] s.heap.size) s.heap s.heap [] := va_S.rf
  have hD : va_D (va_A [(h0, .inl (g 1, 1, .inr (.inl (fun _ => 0)))), ((a 0), f_x a), ((a 2), f_book a)] s.heap.size) [(h0, .inl (g 1, 1, .inr (.inl (fun _ => 0)))), ((a 0), f_x a), ((a 2), f_book a)] := hD0.self
  have hP : va_P D vwCl [(h0, .inl (g 1, 1, .inr (.inl (fun _ => 0)))), ((a 0), f_x a), ((a 2), f_book a)] s.heap := hP0
  have hl : lv_has ls 4 [(0, .ref (a 0)), (1, .int p0), (2, .ref h0)] := hl
  refine lv_aload_n hx hb dL_wrong_0 rfl (lv_at hl 2 rfl) ?_
  refine lv_iconst (v := 0) hx hb dL_wrong_1 (by decide) ?_
  refine lv_aload_n hx hb dL_wrong_2 rfl (lv_at hl 0 rfl) ?_
  refine lv_iload_n hx hb dL_wrong_3 rfl (lv_at hl 1 rfl) ?_
  have hPc : va_P D vwCl [((a 0), f_x a), ((a 2), f_book a)] _ := hP.sub (ws' := [((a 0), f_x a), ((a 2), f_book a)]) [1, 2] rfl
  have hDc : va_D (fun q => z0 ≤ q) [((a 0), f_x a), ((a 2), f_book a)] := (hD.to hAz).pick (ws' := [((a 0), f_x a), ((a 2), f_book a)]) [1, 2] (by decide) rfl
  have hFc := AnA (ws := [(h0, .inl (g 1, 1, .inr (.inl (fun _ => 0)))), ((a 0), f_x a), ((a 2), f_book a)]) hS.1
  refine vx_calli (vx_runV (As := [.int p0]) (rest := [.int 0, .ref h0]) ⟨hx, hb, hml, hown, ht⟩ (k_X11_wrong l hfl D g z0 _ a p0) (cwV 1 ht (gV w_760 w_762 w_763 w_31 w_761) rfl rfl rfl (by decide +kernel) (le2 rfl rfl)) ⟨PP.blind, va_recv hK.1 hP (ci := 17) (q0 := 1) rfl rfl, PP.mk' hK hZ hz hAz hS hPc hDc⟩ rfl rfl hl.1 rfl (lv_room (Nat.le_of_ble_eq_true rfl)) dL_wrong_4 (le2 rfl rfl)) hS (fun q _ h => hFc q h) hFc (fun q _ h => hFc q h) (fun E ce q9 u t H locs ht1 hvm hw hB hz1 hk1 hS hcell hv9 hcl => ?_) (fun r u t H locs ht1 hvm hw hB hz1 hk1 hS => ?_)
  · have hP := ro1 hP hk1
    obtain ⟨rfl, hB⟩ := hB
    refine vx_catch hown [] ⟨0, 9, 12, 26⟩ [⟨0, 9, 15, 24⟩] (htab.trans rfl) (fun _ h9 => absurd h9 List.not_mem_nil) (by decide) (by decide) (ht _ w_534) (hK.2.2.use w_535) hcell hv9 hcl ?_
    refine W.eq (g2 := F0 m 12 ls [.ref q9]) rfl ?_
    refine lv_astore_n (lv' := [(3, .ref q9), (0, .ref (a 0)), (1, .int p0), (2, .ref h0)]) hx hb dL_wrong_12 rfl hl (by decide) rfl (fun ls hl => ?_)
    refine lv_iconst (v := 1) hx hb dL_wrong_13 (by decide) ?_
    have hP9 := hP.sub (ws' := [(h0, .inl (g 1, 1, .inr (.inl (fun _ => 0))))]) [0] rfl
    have hD9 := hD.sub (ws' := [(h0, .inl (g 1, 1, .inr (.inl (fun _ => 0))))]) [0] (by decide) rfl
    refine W.widen (k := 1) (n := 6) (Nat.le_of_ble_eq_true rfl) (Nat.le_of_ble_eq_true rfl) ?_
    exact W.iret (v := 1) hx hb hr (fun t ht9 hW9 => ⟨⟨1, (), rfl, ⟨rfl, trivial⟩, ⟨(by rw [ht9]; exact hP9), hD9⟩⟩, hS.F ht9⟩) hS.2.2 dL_wrong_14 hlocks
  · exact hw.elim
