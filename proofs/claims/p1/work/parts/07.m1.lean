theorem w_486 : Cond.castable "[I" "java/lang/Object" ∈ NWL := List.mem_filter.mpr ⟨(sh_15 _ (List.mem_of_getElem? (i := 26) (by decide +kernel))), by decide +kernel⟩
theorem w_487 : Cond.methodLink RX15 349 ⟨"java/util/List", "isEmpty", "()Z"⟩ ∈ TG := tg (sg_12 _ (List.mem_of_getElem? (i := 50) (by decide +kernel))) (by decide +kernel)
theorem w_488 : Cond.code yJx4a65c_isEmpty_aae02 cJx4a65c_isEmpty_aae02 1 (some .boolean) ∈ TG := tg (sg_12 _ (List.mem_of_getElem? (i := 57) (by decide +kernel))) (by decide +kernel)
theorem w_489 : Cond.selects RJx4a65c ⟨"java/util/List", "isEmpty", "()Z"⟩ yJx4a65c_isEmpty_aae02 ∈ TG := tg (sg_12 _ (List.mem_of_getElem? (i := 53) (by decide +kernel))) (by decide +kernel)
theorem w_490 : Cond.instanceMethod yJx4a65c_isEmpty_aae02 ∈ TG := tg (sg_12 _ (List.mem_of_getElem? (i := 55) (by decide +kernel))) (by decide +kernel)
theorem w_491 : Cond.fieldLink RX15 64 "StuckatBenchModel" "march" "Ljava/lang/String;" ∈ TG := tg (sg_9 _ (List.mem_of_getElem? (i := 133) (by decide +kernel))) (by decide +kernel)
theorem w_492 : Cond.methodLink RX15 450 yJ0_length_8abf5 ∈ TG := tg (sg_14 _ (List.mem_of_getElem? (i := 48) (by decide +kernel))) (by decide +kernel)
theorem w_493 : Cond.arrayClass .long ∈ TG := tg (sg_1 _ (List.mem_of_getElem? (i := 168) (by decide +kernel))) (by decide +kernel)
theorem w_494 : Cond.methodLink RX15 445 yX15_order ∈ TG := tg (sg_14 _ (List.mem_of_getElem? (i := 35) (by decide +kernel))) (by decide +kernel)
theorem w_495 : Cond.code yX15_order cX15_order 15 (some (.object "java/util/List")) ∈ TG := tg (sg_14 _ (List.mem_of_getElem? (i := 38) (by decide +kernel))) (by decide +kernel)
theorem w_496 : Cond.instanceMethod yX15_order ∈ TG := tg (sg_14 _ (List.mem_of_getElem? (i := 37) (by decide +kernel))) (by decide +kernel)
theorem w_497 : Cond.selects RX15 yX15_order yX15_order ∈ TG := tg (List.mem_append_left _ (List.mem_map.mpr ⟨(yX15_order, 29), List.mem_of_getElem? (i := 123) (by decide +kernel), rfl⟩)) (by decide +kernel)
theorem w_498 : Cond.methodLink RX15 283 yX15_isPattern ∈ TG := tg (sg_11 _ (List.mem_of_getElem? (i := 122) (by decide +kernel))) (by decide +kernel)
theorem w_499 : Cond.code yX15_isPattern cX15_isPattern 2 (some .boolean) ∈ TG := tg (sg_11 _ (List.mem_of_getElem? (i := 125) (by decide +kernel))) (by decide +kernel)
theorem w_500 : Cond.instanceMethod yX15_isPattern ∈ TG := tg (sg_11 _ (List.mem_of_getElem? (i := 124) (by decide +kernel))) (by decide +kernel)
theorem w_501 : Cond.selects RX15 yX15_isPattern yX15_isPattern ∈ TG := tg (List.mem_append_left _ (List.mem_map.mpr ⟨(yX15_isPattern, 29), List.mem_of_getElem? (i := 85) (by decide +kernel), rfl⟩)) (by decide +kernel)
theorem dJx4a65c_isEmpty_aae02_0 : decode cJx4a65c_isEmpty_aae02 0 = .ok (.aload_n 0, 1) := by decide +kernel
theorem dJx4a65c_isEmpty_aae02_1 : decode cJx4a65c_isEmpty_aae02 1 = .ok (.getfield 48, 3) := by decide +kernel
theorem dJx4a65c_isEmpty_aae02_4 : decode cJx4a65c_isEmpty_aae02 4 = .ok (.ifCond .ne 7, 3) := by decide +kernel
theorem dJx4a65c_isEmpty_aae02_7 : decode cJx4a65c_isEmpty_aae02 7 = .ok (.iconst 1, 1) := by decide +kernel
theorem dJx4a65c_isEmpty_aae02_8 : decode cJx4a65c_isEmpty_aae02 8 = .ok (.goto 4, 3) := by decide +kernel
theorem dJx4a65c_isEmpty_aae02_11 : decode cJx4a65c_isEmpty_aae02 11 = .ok (.iconst 0, 1) := by decide +kernel
theorem dJx4a65c_isEmpty_aae02_12 : decode cJx4a65c_isEmpty_aae02 12 = .ok (.ireturn, 1) := by decide +kernel
theorem dX15_core_0 : decode cX15_core 0 = .ok (.aload_n 0, 1) := by decide +kernel
theorem dX15_core_1 : decode cX15_core 1 = .ok (.iload_n 1, 1) := by decide +kernel
theorem dX15_core_2 : decode cX15_core 2 = .ok (.iconst 1, 1) := by decide +kernel
theorem dX15_core_3 : decode cX15_core 3 = .ok (.sipush 999, 3) := by decide +kernel
theorem dX15_core_6 : decode cX15_core 6 = .ok (.invokestatic 98, 3) := by decide +kernel
theorem dX15_core_9 : decode cX15_core 9 = .ok (.ifCond .eq 24, 3) := by decide +kernel
theorem dX15_core_12 : decode cX15_core 12 = .ok (.iload_n 2, 1) := by decide +kernel
theorem dX15_core_13 : decode cX15_core 13 = .ok (.iconst 1, 1) := by decide +kernel
theorem dX15_core_14 : decode cX15_core 14 = .ok (.bipush 64, 2) := by decide +kernel
theorem dX15_core_16 : decode cX15_core 16 = .ok (.invokestatic 98, 3) := by decide +kernel
theorem dX15_core_19 : decode cX15_core 19 = .ok (.ifCond .eq 14, 3) := by decide +kernel
theorem dX15_core_22 : decode cX15_core 22 = .ok (.iload_n 3, 1) := by decide +kernel
theorem dX15_core_23 : decode cX15_core 23 = .ok (.iconst 0, 1) := by decide +kernel
theorem dX15_core_24 : decode cX15_core 24 = .ok (.sipush 999, 3) := by decide +kernel
theorem dX15_core_27 : decode cX15_core 27 = .ok (.invokestatic 98, 3) := by decide +kernel
theorem dX15_core_30 : decode cX15_core 30 = .ok (.ifCond .ne 7, 3) := by decide +kernel
theorem dX15_core_33 : decode cX15_core 33 = .ok (.iconst 1, 1) := by decide +kernel
theorem dX15_core_34 : decode cX15_core 34 = .ok (.goto 22, 3) := by decide +kernel
theorem dX15_core_37 : decode cX15_core 37 = .ok (.aload_n 0, 1) := by decide +kernel
theorem dX15_core_38 : decode cX15_core 38 = .ok (.getfield 83, 3) := by decide +kernel
theorem dX15_core_41 : decode cX15_core 41 = .ok (.invokeinterface 92 1, 5) := by decide +kernel
theorem dX15_core_46 : decode cX15_core 46 = .ok (.bipush 6, 2) := by decide +kernel
theorem dX15_core_48 : decode cX15_core 48 = .ok (.if_icmp .ne 7, 3) := by decide +kernel
theorem dX15_core_51 : decode cX15_core 51 = .ok (.iconst 2, 1) := by decide +kernel
theorem dX15_core_52 : decode cX15_core 52 = .ok (.goto 4, 3) := by decide +kernel
theorem dX15_core_55 : decode cX15_core 55 = .ok (.iconst 0, 1) := by decide +kernel
theorem dX15_core_56 : decode cX15_core 56 = .ok (.invokevirtual 106, 3) := by decide +kernel
theorem dX15_core_59 : decode cX15_core 59 = .ok (.ifCond .eq 5, 3) := by decide +kernel
theorem dX15_core_62 : decode cX15_core 62 = .ok (.iconst 0, 1) := by decide +kernel
theorem dX15_core_63 : decode cX15_core 63 = .ok (.ireturn, 1) := by decide +kernel
theorem dX15_core_64 : decode cX15_core 64 = .ok (.aload_n 0, 1) := by decide +kernel
theorem dX15_core_65 : decode cX15_core 65 = .ok (.getfield 83, 3) := by decide +kernel
theorem dX15_core_68 : decode cX15_core 68 = .ok (.iconst 3, 1) := by decide +kernel
theorem dX15_core_69 : decode cX15_core 69 = .ok (.newarray .int, 2) := by decide +kernel
theorem dX15_core_71 : decode cX15_core 71 = .ok (.dup, 1) := by decide +kernel
theorem dX15_core_72 : decode cX15_core 72 = .ok (.iconst 0, 1) := by decide +kernel
theorem dX15_core_73 : decode cX15_core 73 = .ok (.iload_n 1, 1) := by decide +kernel
theorem dX15_core_74 : decode cX15_core 74 = .ok (.iastore, 1) := by decide +kernel
theorem dX15_core_75 : decode cX15_core 75 = .ok (.dup, 1) := by decide +kernel
theorem dX15_core_76 : decode cX15_core 76 = .ok (.iconst 1, 1) := by decide +kernel
theorem dX15_core_77 : decode cX15_core 77 = .ok (.iload_n 2, 1) := by decide +kernel
theorem dX15_core_78 : decode cX15_core 78 = .ok (.iastore, 1) := by decide +kernel
theorem dX15_core_79 : decode cX15_core 79 = .ok (.dup, 1) := by decide +kernel
theorem dX15_core_80 : decode cX15_core 80 = .ok (.iconst 2, 1) := by decide +kernel
theorem dX15_core_81 : decode cX15_core 81 = .ok (.iload_n 3, 1) := by decide +kernel
theorem dX15_core_82 : decode cX15_core 82 = .ok (.iastore, 1) := by decide +kernel
theorem dX15_core_83 : decode cX15_core 83 = .ok (.invokeinterface 124 2, 5) := by decide +kernel
theorem dX15_core_88 : decode cX15_core 88 = .ok (.pop, 1) := by decide +kernel
theorem dX15_core_89 : decode cX15_core 89 = .ok (.aload_n 0, 1) := by decide +kernel
theorem dX15_core_90 : decode cX15_core 90 = .ok (.getfield 83, 3) := by decide +kernel
theorem dX15_core_93 : decode cX15_core 93 = .ok (.invokeinterface 92 1, 5) := by decide +kernel
theorem dX15_core_98 : decode cX15_core 98 = .ok (.iconst 1, 1) := by decide +kernel
theorem dX15_core_99 : decode cX15_core 99 = .ok (.isub, 1) := by decide +kernel
theorem dX15_core_100 : decode cX15_core 100 = .ok (.ireturn, 1) := by decide +kernel
theorem dX15_coverage_0 : decode cX15_coverage 0 = .ok (.aload_n 0, 1) := by decide +kernel
theorem dX15_coverage_1 : decode cX15_coverage 1 = .ok (.invokevirtual 318, 3) := by decide +kernel
theorem dX15_coverage_4 : decode cX15_coverage 4 = .ok (.astore_n 2, 1) := by decide +kernel
theorem dX15_coverage_5 : decode cX15_coverage 5 = .ok (.aload_n 0, 1) := by decide +kernel
theorem dX15_coverage_6 : decode cX15_coverage 6 = .ok (.ldc_w 339, 3) := by decide +kernel
theorem dX15_coverage_9 : decode cX15_coverage 9 = .ok (.iload_n 1, 1) := by decide +kernel
theorem dX15_coverage_10 : decode cX15_coverage 10 = .ok (.invokevirtual 134, 3) := by decide +kernel
theorem dX15_coverage_13 : decode cX15_coverage 13 = .ok (.ifCond .ge 7, 3) := by decide +kernel
theorem dX15_coverage_16 : decode cX15_coverage 16 = .ok (.iconst 1, 1) := by decide +kernel
theorem dX15_coverage_17 : decode cX15_coverage 17 = .ok (.goto 17, 3) := by decide +kernel
theorem dX15_coverage_20 : decode cX15_coverage 20 = .ok (.aload_n 2, 1) := by decide +kernel
theorem dX15_coverage_21 : decode cX15_coverage 21 = .ok (.invokeinterface 349 1, 5) := by decide +kernel
theorem dX15_coverage_26 : decode cX15_coverage 26 = .ok (.ifCond .eq 7, 3) := by decide +kernel
theorem dX15_coverage_29 : decode cX15_coverage 29 = .ok (.iconst 2, 1) := by decide +kernel
theorem dX15_coverage_30 : decode cX15_coverage 30 = .ok (.goto 4, 3) := by decide +kernel
theorem dX15_coverage_33 : decode cX15_coverage 33 = .ok (.iconst 0, 1) := by decide +kernel
theorem dX15_coverage_34 : decode cX15_coverage 34 = .ok (.invokevirtual 106, 3) := by decide +kernel
theorem dX15_coverage_37 : decode cX15_coverage 37 = .ok (.ifCond .eq 5, 3) := by decide +kernel
theorem dX15_coverage_40 : decode cX15_coverage 40 = .ok (.fconst 0, 1) := by decide +kernel
theorem dX15_coverage_41 : decode cX15_coverage 41 = .ok (.freturn, 1) := by decide +kernel
theorem dX15_coverage_42 : decode cX15_coverage 42 = .ok (.iconst 0, 1) := by decide +kernel
theorem dX15_coverage_43 : decode cX15_coverage 43 = .ok (.istore_n 3, 1) := by decide +kernel
theorem dX15_coverage_44 : decode cX15_coverage 44 = .ok (.aload_n 2, 1) := by decide +kernel
theorem dX15_coverage_45 : decode cX15_coverage 45 = .ok (.invokeinterface 156 1, 5) := by decide +kernel
theorem dX15_coverage_50 : decode cX15_coverage 50 = .ok (.astore 4, 2) := by decide +kernel
theorem dX15_coverage_52 : decode cX15_coverage 52 = .ok (.aload 4, 2) := by decide +kernel
theorem dX15_coverage_54 : decode cX15_coverage 54 = .ok (.invokeinterface 160 1, 5) := by decide +kernel
theorem dX15_coverage_59 : decode cX15_coverage 59 = .ok (.ifCond .eq 41, 3) := by decide +kernel
theorem dX15_coverage_62 : decode cX15_coverage 62 = .ok (.aload 4, 2) := by decide +kernel
theorem dX15_coverage_64 : decode cX15_coverage 64 = .ok (.invokeinterface 166 1, 5) := by decide +kernel
theorem dX15_coverage_69 : decode cX15_coverage 69 = .ok (.checkcast 119, 3) := by decide +kernel
theorem dX15_coverage_72 : decode cX15_coverage 72 = .ok (.invokevirtual 194, 3) := by decide +kernel
theorem dX15_coverage_75 : decode cX15_coverage 75 = .ok (.istore 5, 2) := by decide +kernel
theorem dX15_coverage_77 : decode cX15_coverage 77 = .ok (.iload_n 3, 1) := by decide +kernel
theorem dX15_coverage_78 : decode cX15_coverage 78 = .ok (.aload_n 0, 1) := by decide +kernel
theorem dX15_coverage_79 : decode cX15_coverage 79 = .ok (.iload 5, 2) := by decide +kernel
theorem dX15_coverage_81 : decode cX15_coverage 81 = .ok (.iload_n 1, 1) := by decide +kernel
theorem dX15_coverage_82 : decode cX15_coverage 82 = .ok (.invokevirtual 345, 3) := by decide +kernel
theorem dX15_coverage_85 : decode cX15_coverage 85 = .ok (.lconst 0, 1) := by decide +kernel
theorem dX15_coverage_86 : decode cX15_coverage 86 = .ok (.lcmp, 1) := by decide +kernel
theorem dX15_coverage_87 : decode cX15_coverage 87 = .ok (.ifCond .eq 7, 3) := by decide +kernel
theorem dX15_coverage_90 : decode cX15_coverage 90 = .ok (.iconst 1, 1) := by decide +kernel
theorem dX15_coverage_91 : decode cX15_coverage 91 = .ok (.goto 4, 3) := by decide +kernel
theorem dX15_coverage_94 : decode cX15_coverage 94 = .ok (.iconst 0, 1) := by decide +kernel
theorem dX15_coverage_95 : decode cX15_coverage 95 = .ok (.iadd, 1) := by decide +kernel
theorem dX15_coverage_96 : decode cX15_coverage 96 = .ok (.istore_n 3, 1) := by decide +kernel
theorem dX15_coverage_97 : decode cX15_coverage 97 = .ok (.goto (-45), 3) := by decide +kernel
theorem dX15_coverage_100 : decode cX15_coverage 100 = .ok (.iload_n 3, 1) := by decide +kernel
theorem dX15_coverage_101 : decode cX15_coverage 101 = .ok (.i2f, 1) := by decide +kernel
theorem dX15_coverage_102 : decode cX15_coverage 102 = .ok (.aload_n 2, 1) := by decide +kernel
theorem dX15_coverage_103 : decode cX15_coverage 103 = .ok (.invokeinterface 92 1, 5) := by decide +kernel
theorem dX15_coverage_108 : decode cX15_coverage 108 = .ok (.i2f, 1) := by decide +kernel
theorem dX15_coverage_109 : decode cX15_coverage 109 = .ok (.fdiv, 1) := by decide +kernel
theorem dX15_coverage_110 : decode cX15_coverage 110 = .ok (.freturn, 1) := by decide +kernel
theorem dX15_cycles_0 : decode cX15_cycles 0 = .ok (.aload_n 0, 1) := by decide +kernel
theorem dX15_cycles_1 : decode cX15_cycles 1 = .ok (.iconst 0, 1) := by decide +kernel
theorem dX15_cycles_2 : decode cX15_cycles 2 = .ok (.putfield 1, 3) := by decide +kernel
theorem dX15_cycles_5 : decode cX15_cycles 5 = .ok (.aload_n 0, 1) := by decide +kernel
theorem dX15_cycles_6 : decode cX15_cycles 6 = .ok (.getfield 23, 3) := by decide +kernel
theorem dX15_cycles_9 : decode cX15_cycles 9 = .ok (.invokeinterface 92 1, 5) := by decide +kernel
theorem dX15_cycles_14 : decode cX15_cycles 14 = .ok (.iconst 1, 1) := by decide +kernel
theorem dX15_cycles_15 : decode cX15_cycles 15 = .ok (.iadd, 1) := by decide +kernel
theorem dX15_cycles_16 : decode cX15_cycles 16 = .ok (.aload_n 0, 1) := by decide +kernel
theorem dX15_cycles_17 : decode cX15_cycles 17 = .ok (.getfield 32, 3) := by decide +kernel
theorem dX15_cycles_20 : decode cX15_cycles 20 = .ok (.invokeinterface 92 1, 5) := by decide +kernel
theorem dX15_cycles_25 : decode cX15_cycles 25 = .ok (.imul, 1) := by decide +kernel
theorem dX15_cycles_26 : decode cX15_cycles 26 = .ok (.aload_n 0, 1) := by decide +kernel
theorem dX15_cycles_27 : decode cX15_cycles 27 = .ok (.getfield 23, 3) := by decide +kernel
theorem dX15_cycles_30 : decode cX15_cycles 30 = .ok (.invokeinterface 92 1, 5) := by decide +kernel
theorem dX15_cycles_35 : decode cX15_cycles 35 = .ok (.iadd, 1) := by decide +kernel
theorem dX15_cycles_36 : decode cX15_cycles 36 = .ok (.ireturn, 1) := by decide +kernel
theorem dX15_data_0 : decode cX15_data 0 = .ok (.aload_n 0, 1) := by decide +kernel
theorem dX15_data_1 : decode cX15_data 1 = .ok (.aload_n 0, 1) := by decide +kernel
theorem dX15_data_2 : decode cX15_data 2 = .ok (.iload_n 1, 1) := by decide +kernel
theorem dX15_data_3 : decode cX15_data 3 = .ok (.invokevirtual 140, 3) := by decide +kernel
theorem dX15_data_6 : decode cX15_data 6 = .ok (.ifCond .eq 11, 3) := by decide +kernel
theorem dX15_data_9 : decode cX15_data 9 = .ok (.aload_n 0, 1) := by decide +kernel
theorem dX15_data_10 : decode cX15_data 10 = .ok (.iload_n 2, 1) := by decide +kernel
theorem dX15_data_11 : decode cX15_data 11 = .ok (.invokevirtual 140, 3) := by decide +kernel
theorem dX15_data_14 : decode cX15_data 14 = .ok (.ifCond .ne 7, 3) := by decide +kernel
theorem dX15_data_17 : decode cX15_data 17 = .ok (.iconst 1, 1) := by decide +kernel
theorem dX15_data_18 : decode cX15_data 18 = .ok (.goto 36, 3) := by decide +kernel
theorem dX15_data_21 : decode cX15_data 21 = .ok (.aload_n 0, 1) := by decide +kernel
theorem dX15_data_22 : decode cX15_data 22 = .ok (.getfield 102, 3) := by decide +kernel
theorem dX15_data_25 : decode cX15_data 25 = .ok (.ifCond .ne 24, 3) := by decide +kernel
theorem dX15_data_28 : decode cX15_data 28 = .ok (.aload_n 0, 1) := by decide +kernel
theorem dX15_data_29 : decode cX15_data 29 = .ok (.getfield 16, 3) := by decide +kernel
theorem dX15_data_32 : decode cX15_data 32 = .ok (.iload_n 1, 1) := by decide +kernel
theorem dX15_data_33 : decode cX15_data 33 = .ok (.invokeinterface 143 2, 5) := by decide +kernel
theorem dX15_data_38 : decode cX15_data 38 = .ok (.checkcast 110, 3) := by decide +kernel
theorem dX15_data_41 : decode cX15_data 41 = .ok (.getfield 147, 3) := by decide +kernel
theorem dX15_data_44 : decode cX15_data 44 = .ok (.bipush 102, 2) := by decide +kernel
theorem dX15_data_46 : decode cX15_data 46 = .ok (.if_icmp .eq 7, 3) := by decide +kernel
theorem dX15_data_49 : decode cX15_data 49 = .ok (.iconst 2, 1) := by decide +kernel
theorem dX15_data_50 : decode cX15_data 50 = .ok (.goto 4, 3) := by decide +kernel
theorem dX15_data_53 : decode cX15_data 53 = .ok (.iconst 0, 1) := by decide +kernel
theorem dX15_data_54 : decode cX15_data 54 = .ok (.invokevirtual 106, 3) := by decide +kernel
theorem dX15_data_57 : decode cX15_data 57 = .ok (.ifCond .eq 5, 3) := by decide +kernel
theorem dX15_data_60 : decode cX15_data 60 = .ok (.iconst 0, 1) := by decide +kernel
theorem dX15_data_61 : decode cX15_data 61 = .ok (.ireturn, 1) := by decide +kernel
theorem dX15_data_62 : decode cX15_data 62 = .ok (.aload_n 0, 1) := by decide +kernel
theorem dX15_data_63 : decode cX15_data 63 = .ok (.getfield 16, 3) := by decide +kernel
theorem dX15_data_66 : decode cX15_data 66 = .ok (.iload_n 1, 1) := by decide +kernel
theorem dX15_data_67 : decode cX15_data 67 = .ok (.invokeinterface 143 2, 5) := by decide +kernel
theorem dX15_data_72 : decode cX15_data 72 = .ok (.checkcast 110, 3) := by decide +kernel
theorem dX15_data_75 : decode cX15_data 75 = .ok (.getfield 150, 3) := by decide +kernel
theorem dX15_data_78 : decode cX15_data 78 = .ok (.istore_n 3, 1) := by decide +kernel
theorem dX15_data_79 : decode cX15_data 79 = .ok (.aload_n 0, 1) := by decide +kernel
theorem dX15_data_80 : decode cX15_data 80 = .ok (.getfield 16, 3) := by decide +kernel
theorem dX15_data_83 : decode cX15_data 83 = .ok (.iload_n 1, 1) := by decide +kernel
theorem dX15_data_84 : decode cX15_data 84 = .ok (.invokeinterface 143 2, 5) := by decide +kernel
theorem dX15_data_89 : decode cX15_data 89 = .ok (.checkcast 110, 3) := by decide +kernel
theorem dX15_data_92 : decode cX15_data 92 = .ok (.iload_n 2, 1) := by decide +kernel
theorem dX15_data_93 : decode cX15_data 93 = .ok (.putfield 150, 3) := by decide +kernel
theorem dX15_data_96 : decode cX15_data 96 = .ok (.iload_n 3, 1) := by decide +kernel
theorem dX15_data_97 : decode cX15_data 97 = .ok (.ireturn, 1) := by decide +kernel
theorem dX15_eraseMarch_0 : decode cX15_eraseMarch 0 = .ok (.aload_n 0, 1) := by decide +kernel
theorem dX15_eraseMarch_1 : decode cX15_eraseMarch 1 = .ok (.iconst 0, 1) := by decide +kernel
theorem dX15_eraseMarch_2 : decode cX15_eraseMarch 2 = .ok (.putfield 1, 3) := by decide +kernel
theorem dX15_eraseMarch_5 : decode cX15_eraseMarch 5 = .ok (.aload_n 0, 1) := by decide +kernel
theorem dX15_eraseMarch_6 : decode cX15_eraseMarch 6 = .ok (.getfield 64, 3) := by decide +kernel
theorem dX15_eraseMarch_9 : decode cX15_eraseMarch 9 = .ok (.invokevirtual 450, 3) := by decide +kernel
theorem dX15_eraseMarch_12 : decode cX15_eraseMarch 12 = .ok (.istore_n 1, 1) := by decide +kernel
theorem dX15_eraseMarch_13 : decode cX15_eraseMarch 13 = .ok (.aload_n 0, 1) := by decide +kernel
theorem dX15_eraseMarch_14 : decode cX15_eraseMarch 14 = .ok (.ldc 62, 2) := by decide +kernel
theorem dX15_eraseMarch_16 : decode cX15_eraseMarch 16 = .ok (.putfield 64, 3) := by decide +kernel
theorem dX15_eraseMarch_19 : decode cX15_eraseMarch 19 = .ok (.iload_n 1, 1) := by decide +kernel
theorem dX15_eraseMarch_20 : decode cX15_eraseMarch 20 = .ok (.ireturn, 1) := by decide +kernel
theorem dX15_escapes_0 : decode cX15_escapes 0 = .ok (.aload_n 0, 1) := by decide +kernel
theorem dX15_escapes_1 : decode cX15_escapes 1 = .ok (.iload_n 1, 1) := by decide +kernel
theorem dX15_escapes_2 : decode cX15_escapes 2 = .ok (.iconst 0, 1) := by decide +kernel
theorem dX15_escapes_3 : decode cX15_escapes 3 = .ok (.aload_n 0, 1) := by decide +kernel
theorem dX15_escapes_4 : decode cX15_escapes 4 = .ok (.getfield 32, 3) := by decide +kernel
theorem dX15_escapes_7 : decode cX15_escapes 7 = .ok (.invokeinterface 92 1, 5) := by decide +kernel
theorem dX15_escapes_12 : decode cX15_escapes 12 = .ok (.invokestatic 98, 3) := by decide +kernel
theorem dX15_escapes_15 : decode cX15_escapes 15 = .ok (.ifCond .eq 7, 3) := by decide +kernel
theorem dX15_escapes_18 : decode cX15_escapes 18 = .ok (.iconst 0, 1) := by decide +kernel
theorem dX15_escapes_19 : decode cX15_escapes 19 = .ok (.goto 4, 3) := by decide +kernel
theorem dX15_escapes_22 : decode cX15_escapes 22 = .ok (.iconst 1, 1) := by decide +kernel
theorem dX15_escapes_23 : decode cX15_escapes 23 = .ok (.invokevirtual 106, 3) := by decide +kernel
theorem dX15_escapes_26 : decode cX15_escapes 26 = .ok (.ifCond .eq 5, 3) := by decide +kernel
theorem dX15_escapes_29 : decode cX15_escapes 29 = .ok (.iconst 0, 1) := by decide +kernel
theorem dX15_escapes_30 : decode cX15_escapes 30 = .ok (.ireturn, 1) := by decide +kernel
theorem dX15_escapes_31 : decode cX15_escapes 31 = .ok (.lconst 0, 1) := by decide +kernel
theorem dX15_escapes_32 : decode cX15_escapes 32 = .ok (.lstore_n 2, 1) := by decide +kernel
theorem dX15_escapes_33 : decode cX15_escapes 33 = .ok (.aload_n 0, 1) := by decide +kernel
theorem dX15_escapes_34 : decode cX15_escapes 34 = .ok (.invokevirtual 445, 3) := by decide +kernel
theorem dX15_escapes_37 : decode cX15_escapes 37 = .ok (.astore 4, 2) := by decide +kernel
theorem dX15_escapes_39 : decode cX15_escapes 39 = .ok (.iconst 0, 1) := by decide +kernel
theorem dX15_escapes_40 : decode cX15_escapes 40 = .ok (.istore 5, 2) := by decide +kernel
theorem dX15_escapes_42 : decode cX15_escapes 42 = .ok (.iload 5, 2) := by decide +kernel
theorem dX15_escapes_44 : decode cX15_escapes 44 = .ok (.iload_n 1, 1) := by decide +kernel
theorem dX15_escapes_45 : decode cX15_escapes 45 = .ok (.if_icmp .ge 29, 3) := by decide +kernel
theorem dX15_escapes_48 : decode cX15_escapes 48 = .ok (.lload_n 2, 1) := by decide +kernel
theorem dX15_escapes_49 : decode cX15_escapes 49 = .ok (.lconst 1, 1) := by decide +kernel
theorem dX15_escapes_50 : decode cX15_escapes 50 = .ok (.aload 4, 2) := by decide +kernel
theorem dX15_escapes_52 : decode cX15_escapes 52 = .ok (.iload 5, 2) := by decide +kernel
theorem dX15_escapes_54 : decode cX15_escapes 54 = .ok (.invokeinterface 143 2, 5) := by decide +kernel
theorem dX15_escapes_59 : decode cX15_escapes 59 = .ok (.checkcast 119, 3) := by decide +kernel
theorem dX15_escapes_62 : decode cX15_escapes 62 = .ok (.invokevirtual 194, 3) := by decide +kernel
theorem dX15_escapes_65 : decode cX15_escapes 65 = .ok (.lshl, 1) := by decide +kernel
theorem dX15_escapes_66 : decode cX15_escapes 66 = .ok (.lor, 1) := by decide +kernel
theorem dX15_escapes_67 : decode cX15_escapes 67 = .ok (.lstore_n 2, 1) := by decide +kernel
theorem dX15_escapes_68 : decode cX15_escapes 68 = .ok (.iinc 5 1, 3) := by decide +kernel
theorem dX15_escapes_71 : decode cX15_escapes 71 = .ok (.goto (-29), 3) := by decide +kernel
theorem dX15_escapes_74 : decode cX15_escapes 74 = .ok (.iconst 0, 1) := by decide +kernel
theorem dX15_escapes_75 : decode cX15_escapes 75 = .ok (.istore 5, 2) := by decide +kernel
theorem dX15_escapes_77 : decode cX15_escapes 77 = .ok (.aload_n 0, 1) := by decide +kernel
theorem dX15_escapes_78 : decode cX15_escapes 78 = .ok (.invokevirtual 314, 3) := by decide +kernel
theorem dX15_escapes_81 : decode cX15_escapes 81 = .ok (.astore 6, 2) := by decide +kernel
theorem dX15_escapes_83 : decode cX15_escapes 83 = .ok (.aload_n 0, 1) := by decide +kernel
theorem dX15_escapes_84 : decode cX15_escapes 84 = .ok (.invokevirtual 318, 3) := by decide +kernel
theorem dX15_escapes_87 : decode cX15_escapes 87 = .ok (.invokeinterface 156 1, 5) := by decide +kernel
theorem dX15_escapes_92 : decode cX15_escapes 92 = .ok (.astore 7, 2) := by decide +kernel
theorem dX15_escapes_94 : decode cX15_escapes 94 = .ok (.aload 7, 2) := by decide +kernel
theorem dX15_escapes_96 : decode cX15_escapes 96 = .ok (.invokeinterface 160 1, 5) := by decide +kernel
theorem dX15_escapes_101 : decode cX15_escapes 101 = .ok (.ifCond .eq 53, 3) := by decide +kernel
theorem dX15_escapes_104 : decode cX15_escapes 104 = .ok (.aload 7, 2) := by decide +kernel
theorem dX15_escapes_106 : decode cX15_escapes 106 = .ok (.invokeinterface 166 1, 5) := by decide +kernel
theorem dX15_escapes_111 : decode cX15_escapes 111 = .ok (.checkcast 119, 3) := by decide +kernel
theorem dX15_escapes_114 : decode cX15_escapes 114 = .ok (.invokevirtual 194, 3) := by decide +kernel
theorem dX15_escapes_117 : decode cX15_escapes 117 = .ok (.istore 8, 2) := by decide +kernel
theorem dX15_escapes_119 : decode cX15_escapes 119 = .ok (.iload 5, 2) := by decide +kernel
theorem dX15_escapes_121 : decode cX15_escapes 121 = .ok (.aload_n 0, 1) := by decide +kernel
theorem dX15_escapes_122 : decode cX15_escapes 122 = .ok (.iload 8, 2) := by decide +kernel
theorem dX15_escapes_124 : decode cX15_escapes 124 = .ok (.bipush 115, 2) := by decide +kernel
theorem dX15_escapes_126 : decode cX15_escapes 126 = .ok (.invokevirtual 345, 3) := by decide +kernel
theorem dX15_escapes_129 : decode cX15_escapes 129 = .ok (.lload_n 2, 1) := by decide +kernel
theorem dX15_escapes_130 : decode cX15_escapes 130 = .ok (.land, 1) := by decide +kernel
theorem dX15_escapes_131 : decode cX15_escapes 131 = .ok (.lconst 0, 1) := by decide +kernel
theorem dX15_escapes_132 : decode cX15_escapes 132 = .ok (.lcmp, 1) := by decide +kernel
theorem dX15_escapes_133 : decode cX15_escapes 133 = .ok (.ifCond .ne 14, 3) := by decide +kernel
theorem dX15_escapes_136 : decode cX15_escapes 136 = .ok (.aload_n 0, 1) := by decide +kernel
theorem dX15_escapes_137 : decode cX15_escapes 137 = .ok (.iload 8, 2) := by decide +kernel
theorem dX15_escapes_139 : decode cX15_escapes 139 = .ok (.aload 6, 2) := by decide +kernel
theorem dX15_escapes_141 : decode cX15_escapes 141 = .ok (.invokevirtual 424, 3) := by decide +kernel
theorem dX15_escapes_144 : decode cX15_escapes 144 = .ok (.goto 4, 3) := by decide +kernel
theorem dX15_escapes_147 : decode cX15_escapes 147 = .ok (.iconst 0, 1) := by decide +kernel
theorem dX15_escapes_148 : decode cX15_escapes 148 = .ok (.iadd, 1) := by decide +kernel
theorem dX15_escapes_149 : decode cX15_escapes 149 = .ok (.istore 5, 2) := by decide +kernel
theorem dX15_escapes_151 : decode cX15_escapes 151 = .ok (.goto (-57), 3) := by decide +kernel
theorem dX15_escapes_154 : decode cX15_escapes 154 = .ok (.iload 5, 2) := by decide +kernel
theorem dX15_escapes_156 : decode cX15_escapes 156 = .ok (.ireturn, 1) := by decide +kernel
theorem dX15_fails_0 : decode cX15_fails 0 = .ok (.aload_n 0, 1) := by decide +kernel
theorem dX15_fails_1 : decode cX15_fails 1 = .ok (.aload_n 0, 1) := by decide +kernel
theorem dX15_fails_2 : decode cX15_fails 2 = .ok (.iload_n 1, 1) := by decide +kernel
theorem dX15_fails_3 : decode cX15_fails 3 = .ok (.invokevirtual 283, 3) := by decide +kernel
theorem dX15_fails_6 : decode cX15_fails 6 = .ok (.ifCond .eq 7, 3) := by decide +kernel
theorem dX15_fails_9 : decode cX15_fails 9 = .ok (.iconst 0, 1) := by decide +kernel
theorem dX15_fails_10 : decode cX15_fails 10 = .ok (.goto 4, 3) := by decide +kernel
theorem dX15_fails_13 : decode cX15_fails 13 = .ok (.iconst 1, 1) := by decide +kernel
theorem dX15_fails_14 : decode cX15_fails 14 = .ok (.invokevirtual 106, 3) := by decide +kernel
theorem dX15_fails_17 : decode cX15_fails 17 = .ok (.ifCond .eq 7, 3) := by decide +kernel
theorem dX15_fails_20 : decode cX15_fails 20 = .ok (.lconst 0, 1) := by decide +kernel
theorem dX15_fails_21 : decode cX15_fails 21 = .ok (.goto 8, 3) := by decide +kernel
theorem dX15_fails_24 : decode cX15_fails 24 = .ok (.aload_n 0, 1) := by decide +kernel
theorem dX15_fails_25 : decode cX15_fails 25 = .ok (.iload_n 1, 1) := by decide +kernel
theorem dX15_fails_26 : decode cX15_fails 26 = .ok (.invokevirtual 403, 3) := by decide +kernel
theorem dX15_fails_29 : decode cX15_fails 29 = .ok (.lreturn, 1) := by decide +kernel
theorem dX15_faults_0 : decode cX15_faults 0 = .ok (.aload_n 0, 1) := by decide +kernel
theorem dX15_faults_1 : decode cX15_faults 1 = .ok (.iconst 0, 1) := by decide +kernel
theorem dX15_faults_2 : decode cX15_faults 2 = .ok (.putfield 1, 3) := by decide +kernel
theorem dX15_faults_5 : decode cX15_faults 5 = .ok (.aload_n 0, 1) := by decide +kernel
theorem dX15_faults_6 : decode cX15_faults 6 = .ok (.getfield 26, 3) := by decide +kernel
theorem dX15_faults_9 : decode cX15_faults 9 = .ok (.invokeinterface 92 1, 5) := by decide +kernel
theorem dX15_faults_14 : decode cX15_faults 14 = .ok (.ireturn, 1) := by decide +kernel
theorem dX15_faulty_0 : decode cX15_faulty 0 = .ok (.aload_n 0, 1) := by decide +kernel
theorem dX15_faulty_1 : decode cX15_faulty 1 = .ok (.aload_n 0, 1) := by decide +kernel
theorem dX15_faulty_2 : decode cX15_faulty 2 = .ok (.iload_n 1, 1) := by decide +kernel
theorem dX15_faulty_3 : decode cX15_faulty 3 = .ok (.invokevirtual 283, 3) := by decide +kernel
theorem dX15_faulty_6 : decode cX15_faulty 6 = .ok (.ifCond .eq 23, 3) := by decide +kernel
theorem dX15_faulty_9 : decode cX15_faulty 9 = .ok (.aload_n 0, 1) := by decide +kernel
theorem dX15_faulty_10 : decode cX15_faulty 10 = .ok (.iload_n 2, 1) := by decide +kernel
theorem dX15_faulty_11 : decode cX15_faulty 11 = .ok (.invokevirtual 140, 3) := by decide +kernel
theorem dX15_faulty_14 : decode cX15_faulty 14 = .ok (.ifCond .eq 15, 3) := by decide +kernel
theorem dX15_faulty_17 : decode cX15_faulty 17 = .ok (.aload_n 0, 1) := by decide +kernel
theorem dX15_faulty_18 : decode cX15_faulty 18 = .ok (.iload_n 3, 1) := by decide +kernel
theorem dX15_faulty_19 : decode cX15_faulty 19 = .ok (.invokevirtual 286, 3) := by decide +kernel
theorem dX15_faulty_22 : decode cX15_faulty 22 = .ok (.ifCond .eq 7, 3) := by decide +kernel
theorem dX15_faulty_25 : decode cX15_faulty 25 = .ok (.iconst 0, 1) := by decide +kernel
theorem dX15_faulty_26 : decode cX15_faulty 26 = .ok (.goto 4, 3) := by decide +kernel
theorem dX15_faulty_29 : decode cX15_faulty 29 = .ok (.iconst 1, 1) := by decide +kernel
theorem dX15_faulty_30 : decode cX15_faulty 30 = .ok (.invokevirtual 106, 3) := by decide +kernel
theorem dX15_faulty_33 : decode cX15_faulty 33 = .ok (.ifCond .eq 5, 3) := by decide +kernel
theorem dX15_faulty_36 : decode cX15_faulty 36 = .ok (.iconst 0, 1) := by decide +kernel
theorem dX15_faulty_37 : decode cX15_faulty 37 = .ok (.ireturn, 1) := by decide +kernel
theorem dX15_faulty_38 : decode cX15_faulty 38 = .ok (.aload_n 0, 1) := by decide +kernel
theorem dX15_faulty_39 : decode cX15_faulty 39 = .ok (.getfield 26, 3) := by decide +kernel
theorem dX15_faulty_42 : decode cX15_faulty 42 = .ok (.iload_n 3, 1) := by decide +kernel
theorem dX15_faulty_43 : decode cX15_faulty 43 = .ok (.invokeinterface 143 2, 5) := by decide +kernel
theorem dX15_faulty_48 : decode cX15_faulty 48 = .ok (.checkcast 170, 3) := by decide +kernel
theorem dX15_faulty_51 : decode cX15_faulty 51 = .ok (.astore 4, 2) := by decide +kernel
theorem dX15_faulty_53 : decode cX15_faulty 53 = .ok (.aload_n 0, 1) := by decide +kernel
theorem dX15_faulty_54 : decode cX15_faulty 54 = .ok (.getfield 32, 3) := by decide +kernel
theorem dX15_faulty_57 : decode cX15_faulty 57 = .ok (.iload_n 1, 1) := by decide +kernel
theorem dX15_faulty_58 : decode cX15_faulty 58 = .ok (.invokeinterface 143 2, 5) := by decide +kernel
theorem dX15_faulty_63 : decode cX15_faulty 63 = .ok (.checkcast 200, 3) := by decide +kernel
theorem dX15_faulty_66 : decode cX15_faulty 66 = .ok (.getfield 256, 3) := by decide +kernel
theorem dX15_faulty_69 : decode cX15_faulty 69 = .ok (.astore 5, 2) := by decide +kernel
theorem dX15_faulty_71 : decode cX15_faulty 71 = .ok (.aload 4, 2) := by decide +kernel
theorem dX15_faulty_73 : decode cX15_faulty 73 = .ok (.invokevirtual 241, 3) := by decide +kernel
theorem dX15_faulty_76 : decode cX15_faulty 76 = .ok (.ifCond .eq 20, 3) := by decide +kernel
theorem dX15_faulty_79 : decode cX15_faulty 79 = .ok (.aload_n 0, 1) := by decide +kernel
theorem dX15_faulty_80 : decode cX15_faulty 80 = .ok (.aload 4, 2) := by decide +kernel
theorem dX15_faulty_82 : decode cX15_faulty 82 = .ok (.iload_n 1, 1) := by decide +kernel
theorem dX15_faulty_83 : decode cX15_faulty 83 = .ok (.invokevirtual 279, 3) := by decide +kernel
theorem dX15_faulty_86 : decode cX15_faulty 86 = .ok (.ifCond .ne 10, 3) := by decide +kernel
theorem dX15_faulty_89 : decode cX15_faulty 89 = .ok (.aload_n 0, 1) := by decide +kernel
theorem dX15_faulty_90 : decode cX15_faulty 90 = .ok (.iload_n 1, 1) := by decide +kernel
theorem dX15_faulty_91 : decode cX15_faulty 91 = .ok (.iload_n 2, 1) := by decide +kernel
theorem dX15_faulty_92 : decode cX15_faulty 92 = .ok (.invokevirtual 289, 3) := by decide +kernel
theorem dX15_faulty_95 : decode cX15_faulty 95 = .ok (.ireturn, 1) := by decide +kernel
theorem dX15_faulty_96 : decode cX15_faulty 96 = .ok (.aload_n 0, 1) := by decide +kernel
theorem dX15_faulty_97 : decode cX15_faulty 97 = .ok (.aload 5, 2) := by decide +kernel
theorem dX15_faulty_99 : decode cX15_faulty 99 = .ok (.aload 4, 2) := by decide +kernel
theorem dX15_faulty_101 : decode cX15_faulty 101 = .ok (.invokevirtual 241, 3) := by decide +kernel
theorem dX15_faulty_104 : decode cX15_faulty 104 = .ok (.ifCond .eq 27, 3) := by decide +kernel
theorem dX15_faulty_107 : decode cX15_faulty 107 = .ok (.new 170, 3) := by decide +kernel
theorem dX15_faulty_110 : decode cX15_faulty 110 = .ok (.dup, 1) := by decide +kernel
theorem dX15_faulty_111 : decode cX15_faulty 111 = .ok (.bipush 115, 2) := by decide +kernel
theorem dX15_faulty_113 : decode cX15_faulty 113 = .ok (.aload 4, 2) := by decide +kernel
theorem dX15_faulty_115 : decode cX15_faulty 115 = .ok (.getfield 232, 3) := by decide +kernel
theorem dX15_faulty_118 : decode cX15_faulty 118 = .ok (.iconst (-1), 1) := by decide +kernel
theorem dX15_faulty_119 : decode cX15_faulty 119 = .ok (.aload_n 0, 1) := by decide +kernel
theorem dX15_faulty_120 : decode cX15_faulty 120 = .ok (.aload 4, 2) := by decide +kernel
theorem dX15_faulty_122 : decode cX15_faulty 122 = .ok (.invokevirtual 258, 3) := by decide +kernel
theorem dX15_faulty_125 : decode cX15_faulty 125 = .ok (.invokespecial 172, 3) := by decide +kernel
theorem dX15_faulty_128 : decode cX15_faulty 128 = .ok (.goto 5, 3) := by decide +kernel
theorem dX15_faulty_131 : decode cX15_faulty 131 = .ok (.aload 4, 2) := by decide +kernel
theorem dX15_faulty_133 : decode cX15_faulty 133 = .ok (.invokevirtual 275, 3) := by decide +kernel
theorem dX15_faulty_136 : decode cX15_faulty 136 = .ok (.pop, 1) := by decide +kernel
theorem dX15_faulty_137 : decode cX15_faulty 137 = .ok (.aload_n 0, 1) := by decide +kernel
theorem dX15_faulty_138 : decode cX15_faulty 138 = .ok (.getfield 42, 3) := by decide +kernel
theorem dX15_faulty_141 : decode cX15_faulty 141 = .ok (.iload_n 2, 1) := by decide +kernel
theorem dX15_faulty_142 : decode cX15_faulty 142 = .ok (.iaload, 1) := by decide +kernel
theorem dX15_faulty_143 : decode cX15_faulty 143 = .ok (.ireturn, 1) := by decide +kernel
theorem dX15_fill_0 : decode cX15_fill 0 = .ok (.aload_n 0, 1) := by decide +kernel
theorem dX15_fill_1 : decode cX15_fill 1 = .ok (.aload_n 0, 1) := by decide +kernel
theorem dX15_fill_2 : decode cX15_fill 2 = .ok (.iload_n 1, 1) := by decide +kernel
theorem dX15_fill_3 : decode cX15_fill 3 = .ok (.invokevirtual 283, 3) := by decide +kernel
theorem dX15_fill_6 : decode cX15_fill 6 = .ok (.ifCond .ne 7, 3) := by decide +kernel
theorem dX15_fill_9 : decode cX15_fill 9 = .ok (.iconst 1, 1) := by decide +kernel
theorem dX15_fill_10 : decode cX15_fill 10 = .ok (.goto 18, 3) := by decide +kernel
theorem dX15_fill_13 : decode cX15_fill 13 = .ok (.ldc_w 377, 3) := by decide +kernel
theorem dX15_fill_16 : decode cX15_fill 16 = .ok (.iload_n 2, 1) := by decide +kernel
theorem dX15_fill_17 : decode cX15_fill 17 = .ok (.invokevirtual 134, 3) := by decide +kernel
theorem dX15_fill_20 : decode cX15_fill 20 = .ok (.ifCond .ge 7, 3) := by decide +kernel
theorem dX15_fill_23 : decode cX15_fill 23 = .ok (.iconst 2, 1) := by decide +kernel
theorem dX15_fill_24 : decode cX15_fill 24 = .ok (.goto 4, 3) := by decide +kernel
theorem dX15_fill_27 : decode cX15_fill 27 = .ok (.iconst 0, 1) := by decide +kernel
theorem dX15_fill_28 : decode cX15_fill 28 = .ok (.invokevirtual 106, 3) := by decide +kernel
theorem dX15_fill_31 : decode cX15_fill 31 = .ok (.ifCond .eq 5, 3) := by decide +kernel
theorem dX15_fill_34 : decode cX15_fill 34 = .ok (.iconst 0, 1) := by decide +kernel
theorem dX15_fill_35 : decode cX15_fill 35 = .ok (.ireturn, 1) := by decide +kernel
theorem dX15_fill_36 : decode cX15_fill 36 = .ok (.aload_n 0, 1) := by decide +kernel
theorem dX15_fill_37 : decode cX15_fill 37 = .ok (.getfield 32, 3) := by decide +kernel
theorem dX15_fill_40 : decode cX15_fill 40 = .ok (.iload_n 1, 1) := by decide +kernel
theorem dX15_fill_41 : decode cX15_fill 41 = .ok (.invokeinterface 143 2, 5) := by decide +kernel
theorem dX15_fill_46 : decode cX15_fill 46 = .ok (.checkcast 200, 3) := by decide +kernel
theorem dX15_fill_49 : decode cX15_fill 49 = .ok (.getfield 256, 3) := by decide +kernel
theorem dX15_fill_52 : decode cX15_fill 52 = .ok (.astore_n 3, 1) := by decide +kernel
theorem dX15_fill_53 : decode cX15_fill 53 = .ok (.iconst 0, 1) := by decide +kernel
theorem dX15_fill_54 : decode cX15_fill 54 = .ok (.istore 4, 2) := by decide +kernel
theorem dX15_fill_56 : decode cX15_fill 56 = .ok (.iconst 0, 1) := by decide +kernel
theorem dX15_fill_57 : decode cX15_fill 57 = .ok (.istore 5, 2) := by decide +kernel
theorem dX15_fill_59 : decode cX15_fill 59 = .ok (.iconst 0, 1) := by decide +kernel
theorem dX15_fill_60 : decode cX15_fill 60 = .ok (.istore 6, 2) := by decide +kernel
theorem dX15_fill_62 : decode cX15_fill 62 = .ok (.iload 6, 2) := by decide +kernel
theorem dX15_fill_64 : decode cX15_fill 64 = .ok (.aload_n 3, 1) := by decide +kernel
theorem dX15_fill_65 : decode cX15_fill 65 = .ok (.arraylength, 1) := by decide +kernel
theorem dX15_fill_66 : decode cX15_fill 66 = .ok (.if_icmp .ge 52, 3) := by decide +kernel
theorem dX15_fill_69 : decode cX15_fill 69 = .ok (.aload_n 3, 1) := by decide +kernel
theorem dX15_fill_70 : decode cX15_fill 70 = .ok (.iload 6, 2) := by decide +kernel
theorem dX15_fill_72 : decode cX15_fill 72 = .ok (.iaload, 1) := by decide +kernel
theorem dX15_fill_73 : decode cX15_fill 73 = .ok (.iconst 2, 1) := by decide +kernel
theorem dX15_fill_74 : decode cX15_fill 74 = .ok (.if_icmp .ne 32, 3) := by decide +kernel
theorem dX15_fill_77 : decode cX15_fill 77 = .ok (.aload_n 3, 1) := by decide +kernel
theorem dX15_fill_78 : decode cX15_fill 78 = .ok (.iload 6, 2) := by decide +kernel
theorem dX15_fill_80 : decode cX15_fill 80 = .ok (.iload_n 2, 1) := by decide +kernel
theorem dX15_fill_81 : decode cX15_fill 81 = .ok (.bipush 122, 2) := by decide +kernel
theorem dX15_fill_83 : decode cX15_fill 83 = .ok (.if_icmp .ne 7, 3) := by decide +kernel
theorem dX15_fill_86 : decode cX15_fill 86 = .ok (.iconst 0, 1) := by decide +kernel
theorem dX15_fill_87 : decode cX15_fill 87 = .ok (.goto 15, 3) := by decide +kernel
theorem dX15_fill_90 : decode cX15_fill 90 = .ok (.iload_n 2, 1) := by decide +kernel
theorem dX15_fill_91 : decode cX15_fill 91 = .ok (.bipush 111, 2) := by decide +kernel
theorem dX15_fill_93 : decode cX15_fill 93 = .ok (.if_icmp .ne 7, 3) := by decide +kernel
theorem dX15_fill_96 : decode cX15_fill 96 = .ok (.iconst 1, 1) := by decide +kernel
theorem dX15_fill_97 : decode cX15_fill 97 = .ok (.goto 5, 3) := by decide +kernel
theorem dX15_fill_100 : decode cX15_fill 100 = .ok (.iload 5, 2) := by decide +kernel
theorem dX15_fill_102 : decode cX15_fill 102 = .ok (.iastore, 1) := by decide +kernel
theorem dX15_fill_103 : decode cX15_fill 103 = .ok (.iinc 4 1, 3) := by decide +kernel
theorem dX15_fill_106 : decode cX15_fill 106 = .ok (.aload_n 3, 1) := by decide +kernel
theorem dX15_fill_107 : decode cX15_fill 107 = .ok (.iload 6, 2) := by decide +kernel
theorem dX15_fill_109 : decode cX15_fill 109 = .ok (.iaload, 1) := by decide +kernel
theorem dX15_fill_110 : decode cX15_fill 110 = .ok (.istore 5, 2) := by decide +kernel
theorem dX15_fill_112 : decode cX15_fill 112 = .ok (.iinc 6 1, 3) := by decide +kernel
theorem dX15_fill_115 : decode cX15_fill 115 = .ok (.goto (-53), 3) := by decide +kernel
theorem dX15_fill_118 : decode cX15_fill 118 = .ok (.iload 4, 2) := by decide +kernel
theorem dX15_fill_120 : decode cX15_fill 120 = .ok (.ireturn, 1) := by decide +kernel
theorem dX15_finds_0 : decode cX15_finds 0 = .ok (.aload_n 0, 1) := by decide +kernel
theorem dX15_finds_1 : decode cX15_finds 1 = .ok (.aload_n 0, 1) := by decide +kernel
theorem dX15_finds_2 : decode cX15_finds 2 = .ok (.iload_n 1, 1) := by decide +kernel
theorem dX15_finds_3 : decode cX15_finds 3 = .ok (.invokevirtual 286, 3) := by decide +kernel
theorem dX15_finds_6 : decode cX15_finds 6 = .ok (.ifCond .eq 11, 3) := by decide +kernel
theorem dX15_finds_9 : decode cX15_finds 9 = .ok (.aload_n 0, 1) := by decide +kernel
theorem dX15_finds_10 : decode cX15_finds 10 = .ok (.iload_n 2, 1) := by decide +kernel
theorem dX15_finds_11 : decode cX15_finds 11 = .ok (.invokevirtual 283, 3) := by decide +kernel
theorem dX15_finds_14 : decode cX15_finds 14 = .ok (.ifCond .ne 7, 3) := by decide +kernel
theorem dX15_finds_17 : decode cX15_finds 17 = .ok (.iconst 1, 1) := by decide +kernel
theorem dX15_finds_18 : decode cX15_finds 18 = .ok (.goto 18, 3) := by decide +kernel
theorem dX15_finds_21 : decode cX15_finds 21 = .ok (.ldc_w 339, 3) := by decide +kernel
theorem dX15_finds_24 : decode cX15_finds 24 = .ok (.iload_n 3, 1) := by decide +kernel
theorem dX15_finds_25 : decode cX15_finds 25 = .ok (.invokevirtual 134, 3) := by decide +kernel
theorem dX15_finds_28 : decode cX15_finds 28 = .ok (.ifCond .ge 7, 3) := by decide +kernel
theorem dX15_finds_31 : decode cX15_finds 31 = .ok (.iconst 2, 1) := by decide +kernel
theorem dX15_finds_32 : decode cX15_finds 32 = .ok (.goto 4, 3) := by decide +kernel
theorem dX15_finds_35 : decode cX15_finds 35 = .ok (.iconst 0, 1) := by decide +kernel
theorem dX15_finds_36 : decode cX15_finds 36 = .ok (.invokevirtual 106, 3) := by decide +kernel
theorem dX15_finds_39 : decode cX15_finds 39 = .ok (.ifCond .eq 5, 3) := by decide +kernel
theorem dX15_finds_42 : decode cX15_finds 42 = .ok (.iconst 0, 1) := by decide +kernel
theorem dX15_finds_43 : decode cX15_finds 43 = .ok (.ireturn, 1) := by decide +kernel
theorem dX15_finds_44 : decode cX15_finds 44 = .ok (.aload_n 0, 1) := by decide +kernel
theorem dX15_finds_45 : decode cX15_finds 45 = .ok (.iload_n 1, 1) := by decide +kernel
theorem dX15_finds_46 : decode cX15_finds 46 = .ok (.iload_n 2, 1) := by decide +kernel
theorem dX15_finds_47 : decode cX15_finds 47 = .ok (.iload_n 3, 1) := by decide +kernel
theorem dX15_finds_48 : decode cX15_finds 48 = .ok (.invokevirtual 341, 3) := by decide +kernel
theorem dX15_finds_51 : decode cX15_finds 51 = .ok (.ireturn, 1) := by decide +kernel
theorem dX15_foundBy_0 : decode cX15_foundBy 0 = .ok (.aload_n 0, 1) := by decide +kernel
theorem dX15_foundBy_1 : decode cX15_foundBy 1 = .ok (.aload_n 0, 1) := by decide +kernel
theorem dX15_foundBy_2 : decode cX15_foundBy 2 = .ok (.iload_n 1, 1) := by decide +kernel
theorem dX15_foundBy_3 : decode cX15_foundBy 3 = .ok (.invokevirtual 286, 3) := by decide +kernel
theorem dX15_foundBy_6 : decode cX15_foundBy 6 = .ok (.ifCond .eq 7, 3) := by decide +kernel
theorem dX15_foundBy_9 : decode cX15_foundBy 9 = .ok (.iconst 0, 1) := by decide +kernel
theorem dX15_foundBy_10 : decode cX15_foundBy 10 = .ok (.goto 4, 3) := by decide +kernel
theorem dX15_foundBy_13 : decode cX15_foundBy 13 = .ok (.iconst 1, 1) := by decide +kernel
theorem dX15_foundBy_14 : decode cX15_foundBy 14 = .ok (.invokevirtual 106, 3) := by decide +kernel
theorem dX15_foundBy_17 : decode cX15_foundBy 17 = .ok (.ifCond .eq 7, 3) := by decide +kernel
theorem dX15_foundBy_20 : decode cX15_foundBy 20 = .ok (.lconst 0, 1) := by decide +kernel
theorem dX15_foundBy_21 : decode cX15_foundBy 21 = .ok (.goto 10, 3) := by decide +kernel
theorem dX15_foundBy_24 : decode cX15_foundBy 24 = .ok (.aload_n 0, 1) := by decide +kernel
theorem dX15_foundBy_25 : decode cX15_foundBy 25 = .ok (.iload_n 1, 1) := by decide +kernel
theorem dX15_foundBy_26 : decode cX15_foundBy 26 = .ok (.bipush 115, 2) := by decide +kernel
theorem dX15_foundBy_28 : decode cX15_foundBy 28 = .ok (.invokevirtual 345, 3) := by decide +kernel
theorem dX15_foundBy_31 : decode cX15_foundBy 31 = .ok (.lreturn, 1) := by decide +kernel
theorem dX15_isPattern_0 : decode cX15_isPattern 0 = .ok (.iload_n 1, 1) := by decide +kernel
theorem dX15_isPattern_1 : decode cX15_isPattern 1 = .ok (.iconst 0, 1) := by decide +kernel
theorem dX15_isPattern_2 : decode cX15_isPattern 2 = .ok (.aload_n 0, 1) := by decide +kernel
theorem dX15_isPattern_3 : decode cX15_isPattern 3 = .ok (.getfield 32, 3) := by decide +kernel
theorem dX15_isPattern_6 : decode cX15_isPattern 6 = .ok (.invokeinterface 92 1, 5) := by decide +kernel
theorem dX15_isPattern_11 : decode cX15_isPattern 11 = .ok (.iconst 1, 1) := by decide +kernel
theorem dX15_isPattern_12 : decode cX15_isPattern 12 = .ok (.isub, 1) := by decide +kernel
theorem dX15_isPattern_13 : decode cX15_isPattern 13 = .ok (.invokestatic 98, 3) := by decide +kernel
theorem dX15_isPattern_16 : decode cX15_isPattern 16 = .ok (.ireturn, 1) := by decide +kernel
theorem dX15_order_0 : decode cX15_order 0 = .ok (.aload_n 0, 1) := by decide +kernel
theorem dX15_order_1 : decode cX15_order 1 = .ok (.invokevirtual 318, 3) := by decide +kernel
theorem dX15_order_4 : decode cX15_order 4 = .ok (.astore_n 1, 1) := by decide +kernel
theorem dX15_order_5 : decode cX15_order 5 = .ok (.aload_n 1, 1) := by decide +kernel
theorem dX15_order_6 : decode cX15_order 6 = .ok (.invokeinterface 92 1, 5) := by decide +kernel
theorem dX15_order_11 : decode cX15_order 11 = .ok (.newarray .long, 2) := by decide +kernel
theorem dX15_order_13 : decode cX15_order 13 = .ok (.astore_n 2, 1) := by decide +kernel
theorem dX15_order_14 : decode cX15_order 14 = .ok (.aload_n 0, 1) := by decide +kernel
theorem dX15_order_15 : decode cX15_order 15 = .ok (.invokevirtual 314, 3) := by decide +kernel
theorem dX15_order_18 : decode cX15_order 18 = .ok (.astore_n 3, 1) := by decide +kernel
theorem dX15_order_19 : decode cX15_order 19 = .ok (.aload_n 2, 1) := by decide +kernel
theorem dX15_order_20 : decode cX15_order 20 = .ok (.arraylength, 1) := by decide +kernel
theorem dX15_order_21 : decode cX15_order 21 = .ok (.newarray .long, 2) := by decide +kernel
theorem dX15_order_23 : decode cX15_order 23 = .ok (.astore 4, 2) := by decide +kernel
theorem dX15_order_25 : decode cX15_order 25 = .ok (.iconst 0, 1) := by decide +kernel
theorem dX15_order_26 : decode cX15_order 26 = .ok (.istore 5, 2) := by decide +kernel
theorem dX15_order_28 : decode cX15_order 28 = .ok (.iload 5, 2) := by decide +kernel
theorem dX15_order_30 : decode cX15_order 30 = .ok (.aload_n 2, 1) := by decide +kernel
theorem dX15_order_31 : decode cX15_order 31 = .ok (.arraylength, 1) := by decide +kernel
theorem dX15_order_32 : decode cX15_order 32 = .ok (.if_icmp .ge 60, 3) := by decide +kernel
theorem dX15_order_35 : decode cX15_order 35 = .ok (.aload_n 2, 1) := by decide +kernel
theorem dX15_order_36 : decode cX15_order 36 = .ok (.iload 5, 2) := by decide +kernel
theorem dX15_order_38 : decode cX15_order 38 = .ok (.aload_n 0, 1) := by decide +kernel
theorem dX15_order_39 : decode cX15_order 39 = .ok (.aload_n 1, 1) := by decide +kernel
theorem dX15_order_40 : decode cX15_order 40 = .ok (.iload 5, 2) := by decide +kernel
theorem dX15_order_42 : decode cX15_order 42 = .ok (.invokeinterface 143 2, 5) := by decide +kernel
theorem dX15_order_47 : decode cX15_order 47 = .ok (.checkcast 119, 3) := by decide +kernel
theorem dX15_order_50 : decode cX15_order 50 = .ok (.invokevirtual 194, 3) := by decide +kernel
theorem dX15_order_53 : decode cX15_order 53 = .ok (.bipush 115, 2) := by decide +kernel
theorem dX15_order_55 : decode cX15_order 55 = .ok (.invokevirtual 345, 3) := by decide +kernel
theorem dX15_order_58 : decode cX15_order 58 = .ok (.lastore, 1) := by decide +kernel
theorem dX15_order_59 : decode cX15_order 59 = .ok (.aload 4, 2) := by decide +kernel
theorem dX15_order_61 : decode cX15_order 61 = .ok (.iload 5, 2) := by decide +kernel
theorem dX15_order_63 : decode cX15_order 63 = .ok (.aload_n 0, 1) := by decide +kernel
theorem dX15_order_64 : decode cX15_order 64 = .ok (.aload_n 1, 1) := by decide +kernel
theorem dX15_order_65 : decode cX15_order 65 = .ok (.iload 5, 2) := by decide +kernel
theorem dX15_order_67 : decode cX15_order 67 = .ok (.invokeinterface 143 2, 5) := by decide +kernel
theorem dX15_order_72 : decode cX15_order 72 = .ok (.checkcast 119, 3) := by decide +kernel
theorem dX15_order_75 : decode cX15_order 75 = .ok (.invokevirtual 194, 3) := by decide +kernel
theorem dX15_order_78 : decode cX15_order 78 = .ok (.aload_n 3, 1) := by decide +kernel
theorem dX15_order_79 : decode cX15_order 79 = .ok (.invokevirtual 424, 3) := by decide +kernel
theorem dX15_order_82 : decode cX15_order 82 = .ok (.i2l, 1) := by decide +kernel
theorem dX15_order_83 : decode cX15_order 83 = .ok (.lconst 1, 1) := by decide +kernel
theorem dX15_order_84 : decode cX15_order 84 = .ok (.ladd, 1) := by decide +kernel
theorem dX15_order_85 : decode cX15_order 85 = .ok (.lastore, 1) := by decide +kernel
theorem dX15_order_86 : decode cX15_order 86 = .ok (.iinc 5 1, 3) := by decide +kernel
theorem dX15_order_89 : decode cX15_order 89 = .ok (.goto (-61), 3) := by decide +kernel
theorem dX15_order_92 : decode cX15_order 92 = .ok (.new 13, 3) := by decide +kernel
theorem dX15_order_95 : decode cX15_order 95 = .ok (.dup, 1) := by decide +kernel
theorem dX15_order_96 : decode cX15_order 96 = .ok (.invokespecial 15, 3) := by decide +kernel
theorem dX15_order_99 : decode cX15_order 99 = .ok (.astore 5, 2) := by decide +kernel
theorem dX15_order_101 : decode cX15_order 101 = .ok (.lconst 0, 1) := by decide +kernel
theorem dX15_order_102 : decode cX15_order 102 = .ok (.lstore 6, 2) := by decide +kernel
theorem dX15_order_104 : decode cX15_order 104 = .ok (.aload 5, 2) := by decide +kernel
theorem dX15_order_106 : decode cX15_order 106 = .ok (.invokeinterface 92 1, 5) := by decide +kernel
theorem dX15_order_111 : decode cX15_order 111 = .ok (.aload_n 0, 1) := by decide +kernel
theorem dX15_order_112 : decode cX15_order 112 = .ok (.getfield 32, 3) := by decide +kernel
theorem dX15_order_115 : decode cX15_order 115 = .ok (.invokeinterface 92 1, 5) := by decide +kernel
theorem dX15_order_120 : decode cX15_order 120 = .ok (.if_icmp .ge 194, 3) := by decide +kernel
theorem dX15_order_123 : decode cX15_order 123 = .ok (.iconst (-1), 1) := by decide +kernel
theorem dX15_order_124 : decode cX15_order 124 = .ok (.istore 8, 2) := by decide +kernel
theorem dX15_order_126 : decode cX15_order 126 = .ok (.lconst 0, 1) := by decide +kernel
theorem dX15_order_127 : decode cX15_order 127 = .ok (.lstore 9, 2) := by decide +kernel
theorem dX15_order_129 : decode cX15_order 129 = .ok (.iconst 0, 1) := by decide +kernel
theorem dX15_order_130 : decode cX15_order 130 = .ok (.istore 11, 2) := by decide +kernel
theorem dX15_order_132 : decode cX15_order 132 = .ok (.iload 11, 2) := by decide +kernel
theorem dX15_order_134 : decode cX15_order 134 = .ok (.aload_n 0, 1) := by decide +kernel
theorem dX15_order_135 : decode cX15_order 135 = .ok (.getfield 32, 3) := by decide +kernel
theorem dX15_order_138 : decode cX15_order 138 = .ok (.invokeinterface 92 1, 5) := by decide +kernel
theorem dX15_order_143 : decode cX15_order 143 = .ok (.if_icmp .ge 146, 3) := by decide +kernel
theorem dX15_order_146 : decode cX15_order 146 = .ok (.lload 6, 2) := by decide +kernel
theorem dX15_order_148 : decode cX15_order 148 = .ok (.iload 11, 2) := by decide +kernel
theorem dX15_order_150 : decode cX15_order 150 = .ok (.lshr, 1) := by decide +kernel
theorem dX15_order_151 : decode cX15_order 151 = .ok (.lconst 1, 1) := by decide +kernel
theorem dX15_order_152 : decode cX15_order 152 = .ok (.land, 1) := by decide +kernel
theorem dX15_order_153 : decode cX15_order 153 = .ok (.lconst 1, 1) := by decide +kernel
theorem dX15_order_154 : decode cX15_order 154 = .ok (.lcmp, 1) := by decide +kernel
theorem dX15_order_155 : decode cX15_order 155 = .ok (.ifCond .ne 6, 3) := by decide +kernel
theorem dX15_order_158 : decode cX15_order 158 = .ok (.goto 125, 3) := by decide +kernel
theorem dX15_order_161 : decode cX15_order 161 = .ok (.lconst 0, 1) := by decide +kernel
theorem dX15_order_162 : decode cX15_order 162 = .ok (.lstore 12, 2) := by decide +kernel
theorem dX15_order_164 : decode cX15_order 164 = .ok (.iconst 0, 1) := by decide +kernel
theorem dX15_order_165 : decode cX15_order 165 = .ok (.istore 14, 2) := by decide +kernel
theorem dX15_order_167 : decode cX15_order 167 = .ok (.iload 14, 2) := by decide +kernel
theorem dX15_order_169 : decode cX15_order 169 = .ok (.aload_n 2, 1) := by decide +kernel
theorem dX15_order_170 : decode cX15_order 170 = .ok (.arraylength, 1) := by decide +kernel
theorem dX15_order_171 : decode cX15_order 171 = .ok (.if_icmp .ge 49, 3) := by decide +kernel
theorem dX15_order_174 : decode cX15_order 174 = .ok (.lload 12, 2) := by decide +kernel
theorem dX15_order_176 : decode cX15_order 176 = .ok (.aload_n 2, 1) := by decide +kernel
theorem dX15_order_177 : decode cX15_order 177 = .ok (.iload 14, 2) := by decide +kernel
theorem dX15_order_179 : decode cX15_order 179 = .ok (.laload, 1) := by decide +kernel
theorem dX15_order_180 : decode cX15_order 180 = .ok (.iload 11, 2) := by decide +kernel
theorem dX15_order_182 : decode cX15_order 182 = .ok (.lshr, 1) := by decide +kernel
theorem dX15_order_183 : decode cX15_order 183 = .ok (.lconst 1, 1) := by decide +kernel
theorem dX15_order_184 : decode cX15_order 184 = .ok (.land, 1) := by decide +kernel
theorem dX15_order_185 : decode cX15_order 185 = .ok (.lconst 1, 1) := by decide +kernel
theorem dX15_order_186 : decode cX15_order 186 = .ok (.lcmp, 1) := by decide +kernel
theorem dX15_order_187 : decode cX15_order 187 = .ok (.ifCond .ne 23, 3) := by decide +kernel
theorem dX15_order_190 : decode cX15_order 190 = .ok (.aload_n 2, 1) := by decide +kernel
theorem dX15_order_191 : decode cX15_order 191 = .ok (.iload 14, 2) := by decide +kernel
theorem dX15_order_193 : decode cX15_order 193 = .ok (.laload, 1) := by decide +kernel
theorem dX15_order_194 : decode cX15_order 194 = .ok (.lload 6, 2) := by decide +kernel
theorem dX15_order_196 : decode cX15_order 196 = .ok (.land, 1) := by decide +kernel
theorem dX15_order_197 : decode cX15_order 197 = .ok (.lconst 0, 1) := by decide +kernel
theorem dX15_order_198 : decode cX15_order 198 = .ok (.lcmp, 1) := by decide +kernel
theorem dX15_order_199 : decode cX15_order 199 = .ok (.ifCond .ne 11, 3) := by decide +kernel
theorem dX15_order_202 : decode cX15_order 202 = .ok (.aload 4, 2) := by decide +kernel
theorem dX15_order_204 : decode cX15_order 204 = .ok (.iload 14, 2) := by decide +kernel
theorem dX15_order_206 : decode cX15_order 206 = .ok (.laload, 1) := by decide +kernel
theorem dX15_order_207 : decode cX15_order 207 = .ok (.goto 4, 3) := by decide +kernel
theorem dX15_order_210 : decode cX15_order 210 = .ok (.lconst 0, 1) := by decide +kernel
theorem dX15_order_211 : decode cX15_order 211 = .ok (.ladd, 1) := by decide +kernel
theorem dX15_order_212 : decode cX15_order 212 = .ok (.lstore 12, 2) := by decide +kernel
theorem dX15_order_214 : decode cX15_order 214 = .ok (.iinc 14 1, 3) := by decide +kernel
theorem dX15_order_217 : decode cX15_order 217 = .ok (.goto (-50), 3) := by decide +kernel
theorem dX15_order_220 : decode cX15_order 220 = .ok (.iload 8, 2) := by decide +kernel
theorem dX15_order_222 : decode cX15_order 222 = .ok (.iconst (-1), 1) := by decide +kernel
theorem dX15_order_223 : decode cX15_order 223 = .ok (.if_icmp .eq 52, 3) := by decide +kernel
theorem dX15_order_226 : decode cX15_order 226 = .ok (.lload 12, 2) := by decide +kernel
theorem dX15_order_228 : decode cX15_order 228 = .ok (.aload_n 0, 1) := by decide +kernel
theorem dX15_order_229 : decode cX15_order 229 = .ok (.getfield 32, 3) := by decide +kernel
theorem dX15_order_232 : decode cX15_order 232 = .ok (.iload 8, 2) := by decide +kernel
theorem dX15_order_234 : decode cX15_order 234 = .ok (.invokeinterface 143 2, 5) := by decide +kernel
theorem dX15_order_239 : decode cX15_order 239 = .ok (.checkcast 200, 3) := by decide +kernel
theorem dX15_order_242 : decode cX15_order 242 = .ok (.getfield 442, 3) := by decide +kernel
theorem dX15_order_245 : decode cX15_order 245 = .ok (.i2l, 1) := by decide +kernel
theorem dX15_order_246 : decode cX15_order 246 = .ok (.lmul, 1) := by decide +kernel
theorem dX15_order_247 : decode cX15_order 247 = .ok (.lload 9, 2) := by decide +kernel
theorem dX15_order_249 : decode cX15_order 249 = .ok (.aload_n 0, 1) := by decide +kernel
theorem dX15_order_250 : decode cX15_order 250 = .ok (.getfield 32, 3) := by decide +kernel
theorem dX15_order_253 : decode cX15_order 253 = .ok (.iload 11, 2) := by decide +kernel
theorem dX15_order_255 : decode cX15_order 255 = .ok (.invokeinterface 143 2, 5) := by decide +kernel
theorem dX15_order_260 : decode cX15_order 260 = .ok (.checkcast 200, 3) := by decide +kernel
theorem dX15_order_263 : decode cX15_order 263 = .ok (.getfield 442, 3) := by decide +kernel
theorem dX15_order_266 : decode cX15_order 266 = .ok (.i2l, 1) := by decide +kernel
theorem dX15_order_267 : decode cX15_order 267 = .ok (.lmul, 1) := by decide +kernel
theorem dX15_order_268 : decode cX15_order 268 = .ok (.lcmp, 1) := by decide +kernel
theorem dX15_order_269 : decode cX15_order 269 = .ok (.ifCond .gt 6, 3) := by decide +kernel
theorem dX15_order_272 : decode cX15_order 272 = .ok (.goto 11, 3) := by decide +kernel
theorem dX15_order_275 : decode cX15_order 275 = .ok (.iload 11, 2) := by decide +kernel
theorem dX15_order_277 : decode cX15_order 277 = .ok (.istore 8, 2) := by decide +kernel
theorem dX15_order_279 : decode cX15_order 279 = .ok (.lload 12, 2) := by decide +kernel
theorem dX15_order_281 : decode cX15_order 281 = .ok (.lstore 9, 2) := by decide +kernel
theorem dX15_order_283 : decode cX15_order 283 = .ok (.iinc 11 1, 3) := by decide +kernel
theorem dX15_order_286 : decode cX15_order 286 = .ok (.goto (-154), 3) := by decide +kernel
theorem dX15_order_289 : decode cX15_order 289 = .ok (.aload 5, 2) := by decide +kernel
theorem dX15_order_291 : decode cX15_order 291 = .ok (.iload 8, 2) := by decide +kernel
theorem dX15_order_293 : decode cX15_order 293 = .ok (.invokestatic 118, 3) := by decide +kernel
theorem dX15_order_296 : decode cX15_order 296 = .ok (.invokeinterface 124 2, 5) := by decide +kernel
theorem dX15_order_301 : decode cX15_order 301 = .ok (.pop, 1) := by decide +kernel
theorem dX15_order_302 : decode cX15_order 302 = .ok (.lload 6, 2) := by decide +kernel
theorem dX15_order_304 : decode cX15_order 304 = .ok (.lconst 1, 1) := by decide +kernel
theorem dX15_order_305 : decode cX15_order 305 = .ok (.iload 8, 2) := by decide +kernel
theorem dX15_order_307 : decode cX15_order 307 = .ok (.lshl, 1) := by decide +kernel
theorem dX15_order_308 : decode cX15_order 308 = .ok (.lor, 1) := by decide +kernel
theorem dX15_order_309 : decode cX15_order 309 = .ok (.lstore 6, 2) := by decide +kernel
theorem dX15_order_311 : decode cX15_order 311 = .ok (.goto (-207), 3) := by decide +kernel
theorem dX15_order_314 : decode cX15_order 314 = .ok (.aload 5, 2) := by decide +kernel
theorem dX15_order_316 : decode cX15_order 316 = .ok (.areturn, 1) := by decide +kernel
set_option maxHeartbeats 4000000 in
set_option maxRecDepth 100000 in
theorem k_X15_isBetween_v5 (l : Launch) (D : va_G) (g : Nat → ClassId) (z0 sz : Nat) (a : Nat → Nat) (p0 : Int32) : Met l yX15_isBetween (.code yX15_isBetween cX15_isBetween 3 (some .boolean) :: TG) (rmk 0 0 0 0) (va_Pc [.int p0, .int 1, .int 999] (PP D g z0 sz [])) (va_Qi (fun (r : Int32) (u : Unit) => ((r = 0) ∧ ((p0 < 1) ∨ ((¬ p0 < 1) ∧ ((999 : Int32) < p0)))) ∨ ((r = 1) ∧ ((¬ p0 < 1) ∧ (¬ (999 : Int32) < p0)))) (fun (_ : Unit) (_ : State) => True) (va_A [] sz)) 0 0 (va_A [] sz) := by
  refine met0 (cc := cX15_isBetween) (n := 3) (by decide) (Nat.le_of_ble_eq_true rfl) ?_
  intro p e s m args below meth c hx hb hr hml hown ht hlocks hnm hP0 hD0 hK hZ hsz hz ls hl
  subst hsz
  have hA : ∀ q : Nat, s.heap.size ≤ q → va_A [] s.heap.size q := Anw
  have hAz : ∀ q, va_A [] s.heap.size q → z0 ≤ q := A0z hz
  have hS : va_S (va_A [] s.heap.size) s.heap s.heap [] := va_S.rf
  have hl : lv_has ls 3 [(0, .int p0), (1, .int 1), (2, .int 999)] := hl
  refine lv_iload_n hx hb dX15_isBetween_0 rfl (lv_at hl 1 rfl) ?_
  refine lv_iload_n hx hb dX15_isBetween_1 rfl (lv_at hl 0 rfl) ?_
  refine lv_icmp_gt (tgt := 14) hx hb dX15_isBetween_2 (by decide) (fun c_1 => ?_) (fun c_1 => ?_)
  · refine lv_iconst (v := 0) hx hb dX15_isBetween_14 (by decide) ?_
    refine W.widen (k := 0) (n := 0) (Nat.le_of_ble_eq_true rfl) (Nat.le_of_ble_eq_true rfl) ?_
    exact W.zret (v := 0) hx hb hr rfl (fun t ht9 hW9 => ⟨⟨0, (), rfl, (Or.inl ⟨rfl, (Or.inl c_1)⟩), trivial⟩, hS.F ht9⟩) hS.2.2 dX15_isBetween_15 hlocks
  · refine lv_iload_n hx hb dX15_isBetween_5 rfl (lv_at hl 0 rfl) ?_
    refine lv_iload_n hx hb dX15_isBetween_6 rfl (lv_at hl 2 rfl) ?_
    refine lv_icmp_gt (tgt := 14) hx hb dX15_isBetween_7 (by decide) (fun c_2 => ?_) (fun c_2 => ?_)
    · refine lv_iconst (v := 0) hx hb dX15_isBetween_14 (by decide) ?_
      refine W.widen (k := 0) (n := 0) (Nat.le_of_ble_eq_true rfl) (Nat.le_of_ble_eq_true rfl) ?_
      exact W.zret (v := 0) hx hb hr rfl (fun t ht9 hW9 => ⟨⟨0, (), rfl, (Or.inl ⟨rfl, (Or.inr ⟨c_1, c_2⟩)⟩), trivial⟩, hS.F ht9⟩) hS.2.2 dX15_isBetween_15 hlocks
    · refine lv_iconst (v := 1) hx hb dX15_isBetween_10 (by decide) ?_
      refine lv_goto (tgt := 15) hx hb dX15_isBetween_11 (by decide) ?_
      refine W.widen (k := 0) (n := 0) (Nat.le_of_ble_eq_true rfl) (Nat.le_of_ble_eq_true rfl) ?_
      exact W.zret (v := 1) hx hb hr rfl (fun t ht9 hW9 => ⟨⟨1, (), rfl, (Or.inr ⟨rfl, ⟨c_1, c_2⟩⟩), trivial⟩, hS.F ht9⟩) hS.2.2 dX15_isBetween_15 hlocks
set_option maxHeartbeats 4000000 in
set_option maxRecDepth 100000 in
theorem k_X15_isBetween_v6 (l : Launch) (D : va_G) (g : Nat → ClassId) (z0 sz : Nat) (a : Nat → Nat) (p0 : Int32) : Met l yX15_isBetween (.code yX15_isBetween cX15_isBetween 3 (some .boolean) :: TG) (rmk 0 0 0 0) (va_Pc [.int p0, .int 1, .int 64] (PP D g z0 sz [])) (va_Qi (fun (r : Int32) (u : Unit) => ((r = 0) ∧ ((p0 < 1) ∨ ((¬ p0 < 1) ∧ ((64 : Int32) < p0)))) ∨ ((r = 1) ∧ ((¬ p0 < 1) ∧ (¬ (64 : Int32) < p0)))) (fun (_ : Unit) (_ : State) => True) (va_A [] sz)) 0 0 (va_A [] sz) := by
  refine met0 (cc := cX15_isBetween) (n := 3) (by decide) (Nat.le_of_ble_eq_true rfl) ?_
  intro p e s m args below meth c hx hb hr hml hown ht hlocks hnm hP0 hD0 hK hZ hsz hz ls hl
  subst hsz
  have hA : ∀ q : Nat, s.heap.size ≤ q → va_A [] s.heap.size q := Anw
  have hAz : ∀ q, va_A [] s.heap.size q → z0 ≤ q := A0z hz
  have hS : va_S (va_A [] s.heap.size) s.heap s.heap [] := va_S.rf
  have hl : lv_has ls 3 [(0, .int p0), (1, .int 1), (2, .int 64)] := hl
  refine lv_iload_n hx hb dX15_isBetween_0 rfl (lv_at hl 1 rfl) ?_
  refine lv_iload_n hx hb dX15_isBetween_1 rfl (lv_at hl 0 rfl) ?_
  refine lv_icmp_gt (tgt := 14) hx hb dX15_isBetween_2 (by decide) (fun c_1 => ?_) (fun c_1 => ?_)
  · refine lv_iconst (v := 0) hx hb dX15_isBetween_14 (by decide) ?_
    refine W.widen (k := 0) (n := 0) (Nat.le_of_ble_eq_true rfl) (Nat.le_of_ble_eq_true rfl) ?_
    exact W.zret (v := 0) hx hb hr rfl (fun t ht9 hW9 => ⟨⟨0, (), rfl, (Or.inl ⟨rfl, (Or.inl c_1)⟩), trivial⟩, hS.F ht9⟩) hS.2.2 dX15_isBetween_15 hlocks
  · refine lv_iload_n hx hb dX15_isBetween_5 rfl (lv_at hl 0 rfl) ?_
    refine lv_iload_n hx hb dX15_isBetween_6 rfl (lv_at hl 2 rfl) ?_
    refine lv_icmp_gt (tgt := 14) hx hb dX15_isBetween_7 (by decide) (fun c_2 => ?_) (fun c_2 => ?_)
    · refine lv_iconst (v := 0) hx hb dX15_isBetween_14 (by decide) ?_
      refine W.widen (k := 0) (n := 0) (Nat.le_of_ble_eq_true rfl) (Nat.le_of_ble_eq_true rfl) ?_
      exact W.zret (v := 0) hx hb hr rfl (fun t ht9 hW9 => ⟨⟨0, (), rfl, (Or.inl ⟨rfl, (Or.inr ⟨c_1, c_2⟩)⟩), trivial⟩, hS.F ht9⟩) hS.2.2 dX15_isBetween_15 hlocks
    · refine lv_iconst (v := 1) hx hb dX15_isBetween_10 (by decide) ?_
      refine lv_goto (tgt := 15) hx hb dX15_isBetween_11 (by decide) ?_
      refine W.widen (k := 0) (n := 0) (Nat.le_of_ble_eq_true rfl) (Nat.le_of_ble_eq_true rfl) ?_
      exact W.zret (v := 1) hx hb hr rfl (fun t ht9 hW9 => ⟨⟨1, (), rfl, (Or.inr ⟨rfl, ⟨c_1, c_2⟩⟩), trivial⟩, hS.F ht9⟩) hS.2.2 dX15_isBetween_15 hlocks
set_option maxHeartbeats 4000000 in
set_option maxRecDepth 100000 in
theorem k_X15_isBetween_v7 (l : Launch) (D : va_G) (g : Nat → ClassId) (z0 sz : Nat) (a : Nat → Nat) (p0 : Int32) : Met l yX15_isBetween (.code yX15_isBetween cX15_isBetween 3 (some .boolean) :: TG) (rmk 0 0 0 0) (va_Pc [.int p0, .int 0, .int 999] (PP D g z0 sz [])) (va_Qi (fun (r : Int32) (u : Unit) => ((r = 0) ∧ ((p0 < 0) ∨ ((¬ p0 < 0) ∧ ((999 : Int32) < p0)))) ∨ ((r = 1) ∧ ((¬ p0 < 0) ∧ (¬ (999 : Int32) < p0)))) (fun (_ : Unit) (_ : State) => True) (va_A [] sz)) 0 0 (va_A [] sz) := by
  refine met0 (cc := cX15_isBetween) (n := 3) (by decide) (Nat.le_of_ble_eq_true rfl) ?_
  intro p e s m args below meth c hx hb hr hml hown ht hlocks hnm hP0 hD0 hK hZ hsz hz ls hl
  subst hsz
  have hA : ∀ q : Nat, s.heap.size ≤ q → va_A [] s.heap.size q := Anw
  have hAz : ∀ q, va_A [] s.heap.size q → z0 ≤ q := A0z hz
  have hS : va_S (va_A [] s.heap.size) s.heap s.heap [] := va_S.rf
  have hl : lv_has ls 3 [(0, .int p0), (1, .int 0), (2, .int 999)] := hl
  refine lv_iload_n hx hb dX15_isBetween_0 rfl (lv_at hl 1 rfl) ?_
  refine lv_iload_n hx hb dX15_isBetween_1 rfl (lv_at hl 0 rfl) ?_
  refine lv_icmp_gt (tgt := 14) hx hb dX15_isBetween_2 (by decide) (fun c_1 => ?_) (fun c_1 => ?_)
  · refine lv_iconst (v := 0) hx hb dX15_isBetween_14 (by decide) ?_
    refine W.widen (k := 0) (n := 0) (Nat.le_of_ble_eq_true rfl) (Nat.le_of_ble_eq_true rfl) ?_
    exact W.zret (v := 0) hx hb hr rfl (fun t ht9 hW9 => ⟨⟨0, (), rfl, (Or.inl ⟨rfl, (Or.inl c_1)⟩), trivial⟩, hS.F ht9⟩) hS.2.2 dX15_isBetween_15 hlocks
  · refine lv_iload_n hx hb dX15_isBetween_5 rfl (lv_at hl 0 rfl) ?_
    refine lv_iload_n hx hb dX15_isBetween_6 rfl (lv_at hl 2 rfl) ?_
    refine lv_icmp_gt (tgt := 14) hx hb dX15_isBetween_7 (by decide) (fun c_2 => ?_) (fun c_2 => ?_)
    · refine lv_iconst (v := 0) hx hb dX15_isBetween_14 (by decide) ?_
      refine W.widen (k := 0) (n := 0) (Nat.le_of_ble_eq_true rfl) (Nat.le_of_ble_eq_true rfl) ?_
      exact W.zret (v := 0) hx hb hr rfl (fun t ht9 hW9 => ⟨⟨0, (), rfl, (Or.inl ⟨rfl, (Or.inr ⟨c_1, c_2⟩)⟩), trivial⟩, hS.F ht9⟩) hS.2.2 dX15_isBetween_15 hlocks
    · refine lv_iconst (v := 1) hx hb dX15_isBetween_10 (by decide) ?_
      refine lv_goto (tgt := 15) hx hb dX15_isBetween_11 (by decide) ?_
      refine W.widen (k := 0) (n := 0) (Nat.le_of_ble_eq_true rfl) (Nat.le_of_ble_eq_true rfl) ?_
      exact W.zret (v := 1) hx hb hr rfl (fun t ht9 hW9 => ⟨⟨1, (), rfl, (Or.inr ⟨rfl, ⟨c_1, c_2⟩⟩), trivial⟩, hS.F ht9⟩) hS.2.2 dX15_isBetween_15 hlocks
set_option maxHeartbeats 4000000 in
set_option maxRecDepth 100000 in
theorem k_Jx4a65c_add_72be8_v2 (l : Launch) (D : va_G) (g : Nat → ClassId) (z0 sz : Nat) (a : Nat → Nat) (h0 : Nat) (h1 : Nat) (fh1 : Nat → Int32) : Met l yJx4a65c_add_72be8 (.code yJx4a65c_add_72be8 cJx4a65c_add_72be8 4 none :: TG) (rmk 3 1 10 57) (va_Pc [.ref h0, .ref h1, .ref (g 100), .int 0] (PP D g z0 sz [(h0, .inr (5, [.int 1, .ref (g 100), .int 0])), (h1, .inl (g 0, 3, .inl fh1))])) (va_Qv (fun (u : Unit) => True) (fun (u : Unit) (t : State) => ∃ (q_2 : Nat), va_P D vwCl [(h1, .inl (g 0, 3, .inl fh1)), (h0, .inr (5, [.int 1, .ref q_2, .int 1])), (q_2, .inl (g 8, 10, .inr (.inr (.inr (.inr (va_up (fun _ => none) (0 : Int32).toNatClampNeg (some h1)))))))] t.heap ∧ va_D (va_A [(h0, .inr (5, [.int 1, .ref (g 100), .int 0])), (h1, .inl (g 0, 3, .inl fh1))] sz) [(h1, .inl (g 0, 3, .inl fh1)), (h0, .inr (5, [.int 1, .ref q_2, .int 1])), (q_2, .inl (g 8, 10, .inr (.inr (.inr (.inr (va_up (fun _ => none) (0 : Int32).toNatClampNeg (some h1)))))))]) (va_A [(h0, .inr (5, [.int 1, .ref (g 100), .int 0])), (h1, .inl (g 0, 3, .inl fh1))] sz)) 1 10 (va_A [(h0, .inr (5, [.int 1, .ref (g 100), .int 0])), (h1, .inl (g 0, 3, .inl fh1))] sz) := by
  refine met0 (cc := cJx4a65c_add_72be8) (n := 4) (by decide) (Nat.le_of_ble_eq_true rfl) ?_
  intro p e s m args below meth c hx hb hr hml hown ht hlocks hnm hP0 hD0 hK hZ hsz hz ls hl
  subst hsz
  have hA : ∀ q : Nat, s.heap.size ≤ q → va_A [(h0, .inr (5, [.int 1, .ref (g 100), .int 0])), (h1, .inl (g 0, 3, .inl fh1))] s.heap.size q := Anw
  have hAz : ∀ q, va_A [(h0, .inr (5, [.int 1, .ref (g 100), .int 0])), (h1, .inl (g 0, 3, .inl fh1))] s.heap.size q → z0 ≤ q := Awz hz hD0
  have hS : va_S (va_A [(h0, .inr (5, [.int 1, .ref (g 100), .int 0])), (h1, .inl (g 0, 3, .inl fh1))] s.heap.size) s.heap s.heap [] := va_S.rf
  have hD : va_D (va_A [(h0, .inr (5, [.int 1, .ref (g 100), .int 0])), (h1, .inl (g 0, 3, .inl fh1))] s.heap.size) [(h0, .inr (5, [.int 1, .ref (g 100), .int 0])), (h1, .inl (g 0, 3, .inl fh1))] := hD0.self
  have hP : va_P D vwCl [(h0, .inr (5, [.int 1, .ref (g 100), .int 0])), (h1, .inl (g 0, 3, .inl fh1))] s.heap := hP0
  have hl : lv_has ls 4 [(0, .ref h0), (1, .ref h1), (2, .ref (g 100)), (3, .int 0)] := hl
  refine lv_iload_n hx hb dJx4a65c_add_72be8_0 rfl (lv_at hl 3 rfl) ?_
  refine lv_aload_n hx hb dJx4a65c_add_72be8_1 rfl (lv_at hl 2 rfl) ?_
  refine va_tlen (v := 0) hx hb (hZ.m hAz).2.1 hS rfl dJx4a65c_add_72be8_2 ?_
  refine lv_icmp_ne (tgt := 11) hx hb dJx4a65c_add_72be8_3 (by decide) (fun c_1 => ?_) (fun c_1 => ?_)
  · exact absurd c_1 (by decide)
  · refine lv_aload_n hx hb dJx4a65c_add_72be8_6 rfl (lv_at hl 0 rfl) ?_
    have hPc : va_P D vwCl [(h0, .inr (5, [.int 1, .ref (g 100), .int 0]))] _ := hP.sub (ws' := [(h0, .inr (5, [.int 1, .ref (g 100), .int 0]))]) [0] rfl
    have hDc : va_D (fun q => z0 ≤ q) [(h0, .inr (5, [.int 1, .ref (g 100), .int 0]))] := (hD.to hAz).pick (ws' := [(h0, .inr (5, [.int 1, .ref (g 100), .int 0]))]) [0] (by decide) rfl
    have hFc := va_free (wc := [(h0, .inr (5, [.int 1, .ref (g 100), .int 0]))]) hD hS hA [0] rfl
    refine va_callr (va_runV (As := []) (rest := []) ⟨hx, hb, hml, hown, ht⟩ (k_Jx4a65c_grow_d5877 l D g z0 _ a h0) (cwV 0 ht (gV w_463 w_465 w_466 w_323 w_464) rfl rfl rfl (by decide +kernel) (le2 rfl rfl)) ⟨PP.blind, va_recv hK.1 hP (ci := 5) (q0 := 0) rfl rfl, PP.mk' hK hZ hz hAz hS hPc hDc⟩ rfl rfl hl.1 rfl (lv_room (Nat.le_of_ble_eq_true rfl)) dJx4a65c_add_72be8_7 (le2 rfl rfl)) hS (fun q _ h => hFc q h) hFc (fun u ra t H locs ht1 hvm hw hB hz1 hk1 hS => ?_)
    obtain ⟨q_2, hr9, hP1, hD1⟩ := hB
    rw [ht1] at hP1
    obtain ⟨hP, hD⟩ := va_join (wr := [(h1, .inl (g 0, 3, .inl fh1))]) (w1 := [(h0, .inr (5, [.int 1, .ref q_2, .int 0])), (q_2, .inl (g 8, 10, .inr (.inr (.inr (.inr (fun _ => none))))))]) hP hD [0] [1] rfl rfl (by decide) (by decide) hk1 hFc hP1 hD1
    subst hr9
    have hP : va_P D vwCl [(h1, .inl (g 0, 3, .inl fh1)), (h0, .inr (5, [.int 1, .ref q_2, .int 0])), (q_2, .inl (g 8, 10, .inr (.inr (.inr (.inr (fun _ => none))))))] H := hP
    have hD : va_D (va_A [(h0, .inr (5, [.int 1, .ref (g 100), .int 0])), (h1, .inl (g 0, 3, .inl fh1))] s.heap.size) [(h1, .inl (g 0, 3, .inl fh1)), (h0, .inr (5, [.int 1, .ref q_2, .int 0])), (q_2, .inl (g 8, 10, .inr (.inr (.inr (.inr (fun _ => none))))))] := hD
    refine lv_astore_n (lv' := [(2, .ref q_2), (0, .ref h0), (1, .ref h1), (3, .int 0)]) hx hb dJx4a65c_add_72be8_10 rfl hl (by decide) rfl (fun ls hl => ?_)
    refine lv_aload_n hx hb dJx4a65c_add_72be8_11 rfl (lv_at hl 0 rfl) ?_
    refine lv_iload_n hx hb dJx4a65c_add_72be8_12 rfl (lv_at hl 3 rfl) ?_
    refine lv_aload_n hx hb dJx4a65c_add_72be8_13 rfl (lv_at hl 2 rfl) ?_
    refine vb_astq (C := "[I") hx hb hK.1 hP hD hS 2 8 rfl rfl ⟨_, hP 0 _ rfl, rfl, hK.2.1.1⟩ (vb_asgC (hK.2.2.1 _ w_486)) (by unfold vp_in; decide) dJx4a65c_add_72be8_14 (fun H locs hP hD hS => ?_)
    have hP : va_P D vwCl [(h1, .inl (g 0, 3, .inl fh1)), (h0, .inr (5, [.int 1, .ref q_2, .int 0])), (q_2, .inl (g 8, 10, .inr (.inr (.inr (.inr (va_up (fun _ => none) (0 : Int32).toNatClampNeg (some h1)))))))] H := hP
    have hD : va_D (va_A [(h0, .inr (5, [.int 1, .ref (g 100), .int 0])), (h1, .inl (g 0, 3, .inl fh1))] s.heap.size) [(h1, .inl (g 0, 3, .inl fh1)), (h0, .inr (5, [.int 1, .ref q_2, .int 0])), (q_2, .inl (g 8, 10, .inr (.inr (.inr (.inr (va_up (fun _ => none) (0 : Int32).toNatClampNeg (some h1)))))))] := hD
    refine lv_aload_n hx hb dJx4a65c_add_72be8_15 rfl (lv_at hl 1 rfl) ?_
    refine lv_iload_n hx hb dJx4a65c_add_72be8_16 rfl (lv_at hl 3 rfl) ?_
    refine lv_iconst (v := 1) hx hb dJx4a65c_add_72be8_17 (by decide) ?_
    refine lv_iadd hx hb dJx4a65c_add_72be8_18 ?_
    refine r_topi (v := 1) (by decide) ?_
    refine va_put (D := D) (ci := 5) (v := .int 1) (ty := .int) (C := RJx4a65c) (T := TJx4a65c) (N := 3) hx hb ht in_Jx4a65c tyJx4a65c tyJx4a65c_ok nmJx4a65c hown hK.1 hP hD hS 1 rfl rfl 2 (by decide) (ht _ w_355) (fun _ h9 => h9) rfl (by decide +kernel) rfl rfl (Nat.le_of_ble_eq_true rfl) dJx4a65c_add_72be8_19 (fun H locs hP hD hS => ?_)
    have hP : va_P D vwCl [(h1, .inl (g 0, 3, .inl fh1)), (h0, .inr (5, [.int 1, .ref q_2, .int 1])), (q_2, .inl (g 8, 10, .inr (.inr (.inr (.inr (va_up (fun _ => none) (0 : Int32).toNatClampNeg (some h1)))))))] H := hP
    have hD : va_D (va_A [(h0, .inr (5, [.int 1, .ref (g 100), .int 0])), (h1, .inl (g 0, 3, .inl fh1))] s.heap.size) [(h1, .inl (g 0, 3, .inl fh1)), (h0, .inr (5, [.int 1, .ref q_2, .int 1])), (q_2, .inl (g 8, 10, .inr (.inr (.inr (.inr (va_up (fun _ => none) (0 : Int32).toNatClampNeg (some h1)))))))] := hD
    have hP9 := hP.sub (ws' := [(h1, .inl (g 0, 3, .inl fh1)), (h0, .inr (5, [.int 1, .ref q_2, .int 1])), (q_2, .inl (g 8, 10, .inr (.inr (.inr (.inr (va_up (fun _ => none) (0 : Int32).toNatClampNeg (some h1)))))))]) [0, 1, 2] rfl
    have hD9 := hD.sub (ws' := [(h1, .inl (g 0, 3, .inl fh1)), (h0, .inr (5, [.int 1, .ref q_2, .int 1])), (q_2, .inl (g 8, 10, .inr (.inr (.inr (.inr (va_up (fun _ => none) (0 : Int32).toNatClampNeg (some h1)))))))]) [0, 1, 2] (by decide) rfl
    refine W.widen (k := 1) (n := 10) (Nat.le_of_ble_eq_true rfl) (Nat.le_of_ble_eq_true rfl) ?_
    exact W.vret hx hb hr (fun t ht9 hW9 => ⟨⟨(), rfl, trivial, ⟨q_2, (by rw [ht9]; exact hP9), hD9⟩⟩, hS.F ht9⟩) hS.2.2 dJx4a65c_add_72be8_22 hlocks
set_option maxHeartbeats 4000000 in
set_option maxRecDepth 100000 in
theorem k_Jx4a65c_add_9ea2d_v2 (l : Launch) (D : va_G) (g : Nat → ClassId) (z0 sz : Nat) (a : Nat → Nat) (h0 : Nat) (h1 : Nat) (fh1 : Nat → Int32) : Met l yJx4a65c_add_9ea2d (.code yJx4a65c_add_9ea2d cJx4a65c_add_9ea2d 2 (some .boolean) :: TG) (rmk 4 1 10 80) (va_Pc [.ref h0, .ref h1] (PP D g z0 sz [(h0, .inr (5, [.int 0, .ref (g 100), .int 0])), (h1, .inl (g 0, 3, .inl fh1))])) (va_Qi (fun (r : Int32) (u : Unit) => (r = 1) ∧ True) (fun (u : Unit) (t : State) => ∃ (q_1 : Nat), va_P D vwCl [(h1, .inl (g 0, 3, .inl fh1)), (h0, .inr (5, [.int 1, .ref q_1, .int 1])), (q_1, .inl (g 8, 10, .inr (.inr (.inr (.inr (va_up (fun _ => none) (0 : Int32).toNatClampNeg (some h1)))))))] t.heap ∧ va_D (va_A [(h0, .inr (5, [.int 0, .ref (g 100), .int 0])), (h1, .inl (g 0, 3, .inl fh1))] sz) [(h1, .inl (g 0, 3, .inl fh1)), (h0, .inr (5, [.int 1, .ref q_1, .int 1])), (q_1, .inl (g 8, 10, .inr (.inr (.inr (.inr (va_up (fun _ => none) (0 : Int32).toNatClampNeg (some h1)))))))]) (va_A [(h0, .inr (5, [.int 0, .ref (g 100), .int 0])), (h1, .inl (g 0, 3, .inl fh1))] sz)) 1 10 (va_A [(h0, .inr (5, [.int 0, .ref (g 100), .int 0])), (h1, .inl (g 0, 3, .inl fh1))] sz) := by
  refine met0 (cc := cJx4a65c_add_9ea2d) (n := 2) (by decide) (Nat.le_of_ble_eq_true rfl) ?_
  intro p e s m args below meth c hx hb hr hml hown ht hlocks hnm hP0 hD0 hK hZ hsz hz ls hl
  subst hsz
  have hA : ∀ q : Nat, s.heap.size ≤ q → va_A [(h0, .inr (5, [.int 0, .ref (g 100), .int 0])), (h1, .inl (g 0, 3, .inl fh1))] s.heap.size q := Anw
  have hAz : ∀ q, va_A [(h0, .inr (5, [.int 0, .ref (g 100), .int 0])), (h1, .inl (g 0, 3, .inl fh1))] s.heap.size q → z0 ≤ q := Awz hz hD0
  have hS : va_S (va_A [(h0, .inr (5, [.int 0, .ref (g 100), .int 0])), (h1, .inl (g 0, 3, .inl fh1))] s.heap.size) s.heap s.heap [] := va_S.rf
  have hD : va_D (va_A [(h0, .inr (5, [.int 0, .ref (g 100), .int 0])), (h1, .inl (g 0, 3, .inl fh1))] s.heap.size) [(h0, .inr (5, [.int 0, .ref (g 100), .int 0])), (h1, .inl (g 0, 3, .inl fh1))] := hD0.self
  have hP : va_P D vwCl [(h0, .inr (5, [.int 0, .ref (g 100), .int 0])), (h1, .inl (g 0, 3, .inl fh1))] s.heap := hP0
  have hl : lv_has ls 2 [(0, .ref h0), (1, .ref h1)] := hl
  refine lv_aload_n hx hb dJx4a65c_add_9ea2d_0 rfl (lv_at hl 0 rfl) ?_
  refine lv_dup hx hb dJx4a65c_add_9ea2d_1 rfl ?_
  refine va_get (D := D) (ci := 5) (v := .int 0) (C := RJx4a65c) (T := TJx4a65c) (N := 3) hx hb ht in_Jx4a65c hown hK.1 hP 0 rfl rfl 0 (by decide) (ht _ w_456) (u_same (ht _ w_314)) rfl dJx4a65c_add_9ea2d_2 ?_
  refine lv_iconst (v := 1) hx hb dJx4a65c_add_9ea2d_5 (by decide) ?_
  refine lv_iadd hx hb dJx4a65c_add_9ea2d_6 ?_
  refine r_topi (v := 1) (by decide) ?_
  refine va_put (D := D) (ci := 5) (v := .int 1) (ty := .int) (C := RJx4a65c) (T := TJx4a65c) (N := 3) hx hb ht in_Jx4a65c tyJx4a65c tyJx4a65c_ok nmJx4a65c hown hK.1 hP hD hS 0 rfl rfl 0 (by decide) (ht _ w_456) (u_same (ht _ w_314)) rfl (by decide +kernel) rfl rfl (Nat.le_of_ble_eq_true rfl) dJx4a65c_add_9ea2d_7 (fun H locs hP hD hS => ?_)
  have hP : va_P D vwCl [(h0, .inr (5, [.int 1, .ref (g 100), .int 0])), (h1, .inl (g 0, 3, .inl fh1))] H := hP
  have hD : va_D (va_A [(h0, .inr (5, [.int 0, .ref (g 100), .int 0])), (h1, .inl (g 0, 3, .inl fh1))] s.heap.size) [(h0, .inr (5, [.int 1, .ref (g 100), .int 0])), (h1, .inl (g 0, 3, .inl fh1))] := hD
  refine lv_aload_n hx hb dJx4a65c_add_9ea2d_10 rfl (lv_at hl 0 rfl) ?_
  refine lv_aload_n hx hb dJx4a65c_add_9ea2d_11 rfl (lv_at hl 1 rfl) ?_
  refine lv_aload_n hx hb dJx4a65c_add_9ea2d_12 rfl (lv_at hl 0 rfl) ?_
  refine va_get (D := D) (ci := 5) (v := .ref (g 100)) (C := RJx4a65c) (T := TJx4a65c) (N := 3) hx hb ht in_Jx4a65c hown hK.1 hP 0 rfl rfl 1 (by decide) (ht _ w_348) (fun _ h9 => h9) rfl dJx4a65c_add_9ea2d_13 ?_
  refine lv_aload_n hx hb dJx4a65c_add_9ea2d_16 rfl (lv_at hl 0 rfl) ?_
  refine va_get (D := D) (ci := 5) (v := .int 0) (C := RJx4a65c) (T := TJx4a65c) (N := 3) hx hb ht in_Jx4a65c hown hK.1 hP 0 rfl rfl 2 (by decide) (ht _ w_355) (fun _ h9 => h9) rfl dJx4a65c_add_9ea2d_17 ?_
  have hPc : va_P D vwCl [(h0, .inr (5, [.int 1, .ref (g 100), .int 0])), (h1, .inl (g 0, 3, .inl fh1))] _ := hP.sub (ws' := [(h0, .inr (5, [.int 1, .ref (g 100), .int 0])), (h1, .inl (g 0, 3, .inl fh1))]) [0, 1] rfl
  have hDc : va_D (fun q => z0 ≤ q) [(h0, .inr (5, [.int 1, .ref (g 100), .int 0])), (h1, .inl (g 0, 3, .inl fh1))] := (hD.to hAz).pick (ws' := [(h0, .inr (5, [.int 1, .ref (g 100), .int 0])), (h1, .inl (g 0, 3, .inl fh1))]) [0, 1] (by decide) rfl
  have hFc := va_free (wc := [(h0, .inr (5, [.int 1, .ref (g 100), .int 0])), (h1, .inl (g 0, 3, .inl fh1))]) hD hS hA [0, 1] rfl
  refine va_callv (va_runV (As := [.ref h1, .ref (g 100), .int 0]) (rest := []) ⟨hx, hb, hml, hown, ht⟩ (k_Jx4a65c_add_72be8_v2 l D g z0 _ a h0 h1 fh1) (cwV 3 ht (gV w_468 w_470 w_471 w_323 w_469) rfl rfl rfl (by decide +kernel) (le2 rfl rfl)) ⟨PP.blind, va_recv hK.1 hP (ci := 5) (q0 := 0) rfl rfl, PP.mk' hK hZ hz hAz hS hPc hDc⟩ rfl rfl hl.1 rfl (lv_room (Nat.le_of_ble_eq_true rfl)) dJx4a65c_add_9ea2d_20 (le2 rfl rfl)) hS (fun q _ h => hFc q h) hFc (fun u t H locs ht1 hvm hw hB hz1 hk1 hS => ?_)
  obtain ⟨q_1, hP1, hD1⟩ := hB
  rw [ht1] at hP1
  obtain ⟨hP, hD⟩ := va_join (wr := []) (w1 := [(h1, .inl (g 0, 3, .inl fh1)), (h0, .inr (5, [.int 1, .ref q_1, .int 1])), (q_1, .inl (g 8, 10, .inr (.inr (.inr (.inr (va_up (fun _ => none) (0 : Int32).toNatClampNeg (some h1)))))))]) hP hD [0, 1] [] rfl rfl (by decide) (by decide) hk1 hFc hP1 hD1
  have hP : va_P D vwCl [(h1, .inl (g 0, 3, .inl fh1)), (h0, .inr (5, [.int 1, .ref q_1, .int 1])), (q_1, .inl (g 8, 10, .inr (.inr (.inr (.inr (va_up (fun _ => none) (0 : Int32).toNatClampNeg (some h1)))))))] H := hP
  have hD : va_D (va_A [(h0, .inr (5, [.int 0, .ref (g 100), .int 0])), (h1, .inl (g 0, 3, .inl fh1))] s.heap.size) [(h1, .inl (g 0, 3, .inl fh1)), (h0, .inr (5, [.int 1, .ref q_1, .int 1])), (q_1, .inl (g 8, 10, .inr (.inr (.inr (.inr (va_up (fun _ => none) (0 : Int32).toNatClampNeg (some h1)))))))] := hD
  refine lv_iconst (v := 1) hx hb dJx4a65c_add_9ea2d_23 (by decide) ?_
  have hP9 := hP.sub (ws' := [(h1, .inl (g 0, 3, .inl fh1)), (h0, .inr (5, [.int 1, .ref q_1, .int 1])), (q_1, .inl (g 8, 10, .inr (.inr (.inr (.inr (va_up (fun _ => none) (0 : Int32).toNatClampNeg (some h1)))))))]) [0, 1, 2] rfl
  have hD9 := hD.sub (ws' := [(h1, .inl (g 0, 3, .inl fh1)), (h0, .inr (5, [.int 1, .ref q_1, .int 1])), (q_1, .inl (g 8, 10, .inr (.inr (.inr (.inr (va_up (fun _ => none) (0 : Int32).toNatClampNeg (some h1)))))))]) [0, 1, 2] (by decide) rfl
  refine W.widen (k := 1) (n := 10) (Nat.le_of_ble_eq_true rfl) (Nat.le_of_ble_eq_true rfl) ?_
  exact W.zret (v := 1) hx hb hr rfl (fun t ht9 hW9 => ⟨⟨1, (), rfl, ⟨rfl, trivial⟩, ⟨q_1, (by rw [ht9]; exact hP9), hD9⟩⟩, hS.F ht9⟩) hS.2.2 dJx4a65c_add_9ea2d_24 hlocks
set_option maxHeartbeats 4000000 in
set_option maxRecDepth 100000 in
theorem k_X15_core (l : Launch) (D : va_G) (g : Nat → ClassId) (z0 sz : Nat) (a : Nat → Nat) (p0 : Int32) (p1 : Int32) (p2 : Int32) : Met l yX15_core (.code yX15_core cX15_core 4 (some .int) :: TG) (rmk 5 2 13 101) (va_Pc [.ref (a 200), .int p0, .int p1, .int p2] (PP D g z0 sz [((a 200), f_m a g), ((a 207), .inr (5, [.int 0, .ref (g 100), .int 0]))])) (va_Qi (fun (r : Int32) (u : Int32) => ((r = 0) ∧ (u = 1) ∧ ((p0 < 1) ∨ ((¬ p0 < 1) ∧ ((999 : Int32) < p0)) ∨ ((¬ p0 < 1) ∧ (¬ (999 : Int32) < p0) ∧ (p1 < 1)) ∨ ((¬ p0 < 1) ∧ (¬ (999 : Int32) < p0) ∧ (¬ p1 < 1) ∧ ((64 : Int32) < p1)) ∨ ((¬ p0 < 1) ∧ (¬ (999 : Int32) < p0) ∧ (¬ p1 < 1) ∧ (¬ (64 : Int32) < p1) ∧ (p2 < 0)) ∨ ((¬ p0 < 1) ∧ (¬ (999 : Int32) < p0) ∧ (¬ p1 < 1) ∧ (¬ (64 : Int32) < p1) ∧ (¬ p2 < 0) ∧ ((999 : Int32) < p2)))) ∨ ((r = 0) ∧ (u = 0) ∧ ((¬ p0 < 1) ∧ (¬ (999 : Int32) < p0) ∧ (¬ p1 < 1) ∧ (¬ (64 : Int32) < p1) ∧ (¬ p2 < 0) ∧ (¬ (999 : Int32) < p2)))) (fun (u : Int32) (t : State) => va_P D vwCl [((a 200), .inr (21, [.int u, .ref (a 201), .ref (a 202), .ref (a 203), .ref (a 204), .ref (a 205), .ref (a 206), .int 0, .int 0, .int 0, .int 0, .ref (a 208), .ref (a 209), .ref (a 210), .ref (a 211), .ref (a 212), .int 4, .int 12, .int (-1), .int 0, .ref (g 200), .ref (a 213), .int 0, .int 97, .ref (a 214), .ref (a 215), .ref (a 207), .null, .int 0]))] t.heap ∧ va_D (va_A [((a 200), f_m a g), ((a 207), .inr (5, [.int 0, .ref (g 100), .int 0]))] sz) [((a 200), .inr (21, [.int u, .ref (a 201), .ref (a 202), .ref (a 203), .ref (a 204), .ref (a 205), .ref (a 206), .int 0, .int 0, .int 0, .int 0, .ref (a 208), .ref (a 209), .ref (a 210), .ref (a 211), .ref (a 212), .int 4, .int 12, .int (-1), .int 0, .ref (g 200), .ref (a 213), .int 0, .int 97, .ref (a 214), .ref (a 215), .ref (a 207), .null, .int 0]))]) (va_A [((a 200), f_m a g), ((a 207), .inr (5, [.int 0, .ref (g 100), .int 0]))] sz)) 2 13 (va_A [((a 200), f_m a g), ((a 207), .inr (5, [.int 0, .ref (g 100), .int 0]))] sz) := by
  refine met0 (cc := cX15_core) (n := 4) (by decide) (Nat.le_of_ble_eq_true rfl) ?_
  intro p e s m args below meth c hx hb hr hml hown ht hlocks hnm hP0 hD0 hK hZ hsz hz ls hl
  subst hsz
  have hA : ∀ q : Nat, s.heap.size ≤ q → va_A [((a 200), f_m a g), ((a 207), .inr (5, [.int 0, .ref (g 100), .int 0]))] s.heap.size q := Anw
  have hAz : ∀ q, va_A [((a 200), f_m a g), ((a 207), .inr (5, [.int 0, .ref (g 100), .int 0]))] s.heap.size q → z0 ≤ q := Awz hz hD0
  have hS : va_S (va_A [((a 200), f_m a g), ((a 207), .inr (5, [.int 0, .ref (g 100), .int 0]))] s.heap.size) s.heap s.heap [] := va_S.rf
  have hD : va_D (va_A [((a 200), f_m a g), ((a 207), .inr (5, [.int 0, .ref (g 100), .int 0]))] s.heap.size) [((a 200), f_m a g), ((a 207), .inr (5, [.int 0, .ref (g 100), .int 0]))] := hD0.self
  have hP : va_P D vwCl [((a 200), f_m a g), ((a 207), .inr (5, [.int 0, .ref (g 100), .int 0]))] s.heap := hP0
  have hl : lv_has ls 4 [(0, .ref (a 200)), (1, .int p0), (2, .int p1), (3, .int p2)] := hl
  refine lv_aload_n hx hb dX15_core_0 rfl (lv_at hl 0 rfl) ?_
  refine lv_iload_n hx hb dX15_core_1 rfl (lv_at hl 1 rfl) ?_
  refine lv_iconst (v := 1) hx hb dX15_core_2 (by decide) ?_
  refine lv_sipush (v := 999) hx hb dX15_core_3 (by decide) ?_
  have hPc : va_P D vwCl [] _ := hP.sub (ws' := []) [] rfl
  have hDc : va_D (fun q => z0 ≤ q) [] := (hD.to hAz).pick (ws' := []) [] (by decide) rfl
  have hFc := AnA (ws := [((a 200), f_m a g), ((a 207), .inr (5, [.int 0, .ref (g 100), .int 0]))]) hS.1
  refine va_calli (va_runS (As := [.int p0, .int 1, .int 999]) (rest := [.ref (a 200)]) ⟨hx, hb, hml, hown, ht⟩ (k_X15_isBetween_v5 l D g z0 _ a p0) (va_cwS 3 ht (gS w_369 w_371 w_334 w_370) rfl rfl rfl (by decide +kernel) (le2 rfl rfl)) ⟨PP.blind, PP.mk' hK hZ hz hAz hS hPc hDc⟩ rfl rfl hl.1 rfl (lv_room (Nat.le_of_ble_eq_true rfl)) dX15_core_6 (le2 rfl rfl)) hS (fun q _ h => hFc q h) hFc (fun r u t H locs ht1 hvm hw hB hz1 hk1 hS => ?_)
  rcases hw with hw | hw
  · obtain ⟨rfl, hw⟩ := hw
    rcases hw with hw | hw
    · have c_1 := hw
      have hP := ro1 hP hk1
      refine lv_if_eq (tgt := 33) hx hb dX15_core_9 (by decide) (fun c_2 => ?_) (fun c_2 => ?_)
      · refine lv_iconst (v := 1) hx hb dX15_core_33 (by decide) ?_
        refine lv_goto (tgt := 56) hx hb dX15_core_34 (by decide) ?_
        have hPc : va_P D vwCl [((a 200), f_m a g)] _ := hP.sub (ws' := [((a 200), f_m a g)]) [0] rfl
        have hDc : va_D (fun q => z0 ≤ q) [((a 200), f_m a g)] := (hD.to hAz).pick (ws' := [((a 200), f_m a g)]) [0] (by decide) rfl
        have hFc := va_free (wc := [((a 200), f_m a g)]) hD hS hA [0] rfl
        refine va_calli (va_runV (As := [.int 1]) (rest := []) ⟨hx, hb, hml, hown, ht⟩ (k_X15_isWrong l D g z0 _ a) (cwV 1 ht (gV w_376 w_378 w_379 w_334 w_377) rfl rfl rfl (by decide +kernel) (le2 rfl rfl)) ⟨PP.blind, va_recv hK.1 hP (ci := 21) (q0 := 0) rfl rfl, PP.mk' hK hZ hz hAz hS hPc hDc⟩ rfl rfl hl.1 rfl (lv_room (Nat.le_of_ble_eq_true rfl)) dX15_core_56 (le2 rfl rfl)) hS (fun q _ h => hFc q h) hFc (fun r u t H locs ht1 hvm hw hB hz1 hk1 hS => ?_)
        obtain ⟨rfl, hw⟩ := hw
        obtain ⟨hP1, hD1⟩ := hB
        rw [ht1] at hP1
        obtain ⟨hP, hD⟩ := va_join (wr := [((a 207), .inr (5, [.int 0, .ref (g 100), .int 0]))]) (w1 := [((a 200), .inr (21, [.int 1, .ref (a 201), .ref (a 202), .ref (a 203), .ref (a 204), .ref (a 205), .ref (a 206), .int 0, .int 0, .int 0, .int 0, .ref (a 208), .ref (a 209), .ref (a 210), .ref (a 211), .ref (a 212), .int 4, .int 12, .int (-1), .int 0, .ref (g 200), .ref (a 213), .int 0, .int 97, .ref (a 214), .ref (a 215), .ref (a 207), .null, .int 0]))]) hP hD [0] [1] rfl rfl (by decide) (by decide) hk1 hFc hP1 hD1
        have hP : va_P D vwCl [((a 207), .inr (5, [.int 0, .ref (g 100), .int 0])), ((a 200), .inr (21, [.int 1, .ref (a 201), .ref (a 202), .ref (a 203), .ref (a 204), .ref (a 205), .ref (a 206), .int 0, .int 0, .int 0, .int 0, .ref (a 208), .ref (a 209), .ref (a 210), .ref (a 211), .ref (a 212), .int 4, .int 12, .int (-1), .int 0, .ref (g 200), .ref (a 213), .int 0, .int 97, .ref (a 214), .ref (a 215), .ref (a 207), .null, .int 0]))] H := hP
        have hD : va_D (va_A [((a 200), f_m a g), ((a 207), .inr (5, [.int 0, .ref (g 100), .int 0]))] s.heap.size) [((a 207), .inr (5, [.int 0, .ref (g 100), .int 0])), ((a 200), .inr (21, [.int 1, .ref (a 201), .ref (a 202), .ref (a 203), .ref (a 204), .ref (a 205), .ref (a 206), .int 0, .int 0, .int 0, .int 0, .ref (a 208), .ref (a 209), .ref (a 210), .ref (a 211), .ref (a 212), .int 4, .int 12, .int (-1), .int 0, .ref (g 200), .ref (a 213), .int 0, .int 97, .ref (a 214), .ref (a 215), .ref (a 207), .null, .int 0]))] := hD
        refine lv_if_eq (tgt := 64) hx hb dX15_core_59 (by decide) (fun c_3 => ?_) (fun c_3 => ?_)
        · exact absurd c_3 (by decide)
        · refine lv_iconst (v := 0) hx hb dX15_core_62 (by decide) ?_
          have hP9 := hP.sub (ws' := [((a 200), .inr (21, [.int 1, .ref (a 201), .ref (a 202), .ref (a 203), .ref (a 204), .ref (a 205), .ref (a 206), .int 0, .int 0, .int 0, .int 0, .ref (a 208), .ref (a 209), .ref (a 210), .ref (a 211), .ref (a 212), .int 4, .int 12, .int (-1), .int 0, .ref (g 200), .ref (a 213), .int 0, .int 97, .ref (a 214), .ref (a 215), .ref (a 207), .null, .int 0]))]) [1] rfl
          have hD9 := hD.sub (ws' := [((a 200), .inr (21, [.int 1, .ref (a 201), .ref (a 202), .ref (a 203), .ref (a 204), .ref (a 205), .ref (a 206), .int 0, .int 0, .int 0, .int 0, .ref (a 208), .ref (a 209), .ref (a 210), .ref (a 211), .ref (a 212), .int 4, .int 12, .int (-1), .int 0, .ref (g 200), .ref (a 213), .int 0, .int 97, .ref (a 214), .ref (a 215), .ref (a 207), .null, .int 0]))]) [1] (by decide) rfl
          refine W.widen (k := 2) (n := 13) (Nat.le_of_ble_eq_true rfl) (Nat.le_of_ble_eq_true rfl) ?_
          exact W.iret (v := 0) hx hb hr (fun t ht9 hW9 => ⟨⟨0, 1, rfl, (Or.inl ⟨rfl, rfl, (Or.inl c_1)⟩), ⟨(by rw [ht9]; exact hP9), hD9⟩⟩, hS.F ht9⟩) hS.2.2 dX15_core_63 hlocks
      · exact absurd c_2 (by decide)
    · obtain ⟨c_4, c_5⟩ := hw
      have hP := ro1 hP hk1
      refine lv_if_eq (tgt := 33) hx hb dX15_core_9 (by decide) (fun c_6 => ?_) (fun c_6 => ?_)
      · refine lv_iconst (v := 1) hx hb dX15_core_33 (by decide) ?_
        refine lv_goto (tgt := 56) hx hb dX15_core_34 (by decide) ?_
        have hPc : va_P D vwCl [((a 200), f_m a g)] _ := hP.sub (ws' := [((a 200), f_m a g)]) [0] rfl
        have hDc : va_D (fun q => z0 ≤ q) [((a 200), f_m a g)] := (hD.to hAz).pick (ws' := [((a 200), f_m a g)]) [0] (by decide) rfl
        have hFc := va_free (wc := [((a 200), f_m a g)]) hD hS hA [0] rfl
        refine va_calli (va_runV (As := [.int 1]) (rest := []) ⟨hx, hb, hml, hown, ht⟩ (k_X15_isWrong l D g z0 _ a) (cwV 1 ht (gV w_376 w_378 w_379 w_334 w_377) rfl rfl rfl (by decide +kernel) (le2 rfl rfl)) ⟨PP.blind, va_recv hK.1 hP (ci := 21) (q0 := 0) rfl rfl, PP.mk' hK hZ hz hAz hS hPc hDc⟩ rfl rfl hl.1 rfl (lv_room (Nat.le_of_ble_eq_true rfl)) dX15_core_56 (le2 rfl rfl)) hS (fun q _ h => hFc q h) hFc (fun r u t H locs ht1 hvm hw hB hz1 hk1 hS => ?_)
        obtain ⟨rfl, hw⟩ := hw
        obtain ⟨hP1, hD1⟩ := hB
        rw [ht1] at hP1
        obtain ⟨hP, hD⟩ := va_join (wr := [((a 207), .inr (5, [.int 0, .ref (g 100), .int 0]))]) (w1 := [((a 200), .inr (21, [.int 1, .ref (a 201), .ref (a 202), .ref (a 203), .ref (a 204), .ref (a 205), .ref (a 206), .int 0, .int 0, .int 0, .int 0, .ref (a 208), .ref (a 209), .ref (a 210), .ref (a 211), .ref (a 212), .int 4, .int 12, .int (-1), .int 0, .ref (g 200), .ref (a 213), .int 0, .int 97, .ref (a 214), .ref (a 215), .ref (a 207), .null, .int 0]))]) hP hD [0] [1] rfl rfl (by decide) (by decide) hk1 hFc hP1 hD1
        have hP : va_P D vwCl [((a 207), .inr (5, [.int 0, .ref (g 100), .int 0])), ((a 200), .inr (21, [.int 1, .ref (a 201), .ref (a 202), .ref (a 203), .ref (a 204), .ref (a 205), .ref (a 206), .int 0, .int 0, .int 0, .int 0, .ref (a 208), .ref (a 209), .ref (a 210), .ref (a 211), .ref (a 212), .int 4, .int 12, .int (-1), .int 0, .ref (g 200), .ref (a 213), .int 0, .int 97, .ref (a 214), .ref (a 215), .ref (a 207), .null, .int 0]))] H := hP
        have hD : va_D (va_A [((a 200), f_m a g), ((a 207), .inr (5, [.int 0, .ref (g 100), .int 0]))] s.heap.size) [((a 207), .inr (5, [.int 0, .ref (g 100), .int 0])), ((a 200), .inr (21, [.int 1, .ref (a 201), .ref (a 202), .ref (a 203), .ref (a 204), .ref (a 205), .ref (a 206), .int 0, .int 0, .int 0, .int 0, .ref (a 208), .ref (a 209), .ref (a 210), .ref (a 211), .ref (a 212), .int 4, .int 12, .int (-1), .int 0, .ref (g 200), .ref (a 213), .int 0, .int 97, .ref (a 214), .ref (a 215), .ref (a 207), .null, .int 0]))] := hD
        refine lv_if_eq (tgt := 64) hx hb dX15_core_59 (by decide) (fun c_7 => ?_) (fun c_7 => ?_)
        · exact absurd c_7 (by decide)
        · refine lv_iconst (v := 0) hx hb dX15_core_62 (by decide) ?_
          have hP9 := hP.sub (ws' := [((a 200), .inr (21, [.int 1, .ref (a 201), .ref (a 202), .ref (a 203), .ref (a 204), .ref (a 205), .ref (a 206), .int 0, .int 0, .int 0, .int 0, .ref (a 208), .ref (a 209), .ref (a 210), .ref (a 211), .ref (a 212), .int 4, .int 12, .int (-1), .int 0, .ref (g 200), .ref (a 213), .int 0, .int 97, .ref (a 214), .ref (a 215), .ref (a 207), .null, .int 0]))]) [1] rfl
          have hD9 := hD.sub (ws' := [((a 200), .inr (21, [.int 1, .ref (a 201), .ref (a 202), .ref (a 203), .ref (a 204), .ref (a 205), .ref (a 206), .int 0, .int 0, .int 0, .int 0, .ref (a 208), .ref (a 209), .ref (a 210), .ref (a 211), .ref (a 212), .int 4, .int 12, .int (-1), .int 0, .ref (g 200), .ref (a 213), .int 0, .int 97, .ref (a 214), .ref (a 215), .ref (a 207), .null, .int 0]))]) [1] (by decide) rfl
          refine W.widen (k := 2) (n := 13) (Nat.le_of_ble_eq_true rfl) (Nat.le_of_ble_eq_true rfl) ?_
          exact W.iret (v := 0) hx hb hr (fun t ht9 hW9 => ⟨⟨0, 1, rfl, (Or.inl ⟨rfl, rfl, (Or.inr (Or.inl ⟨c_4, c_5⟩))⟩), ⟨(by rw [ht9]; exact hP9), hD9⟩⟩, hS.F ht9⟩) hS.2.2 dX15_core_63 hlocks
      · exact absurd c_6 (by decide)
  · obtain ⟨rfl, hw⟩ := hw
    obtain ⟨c_8, c_9⟩ := hw
    have hP := ro1 hP hk1
    refine lv_if_eq (tgt := 33) hx hb dX15_core_9 (by decide) (fun c_10 => ?_) (fun c_10 => ?_)
    · exact absurd c_10 (by decide)
    · refine lv_iload_n hx hb dX15_core_12 rfl (lv_at hl 2 rfl) ?_
      refine lv_iconst (v := 1) hx hb dX15_core_13 (by decide) ?_
      refine lv_bipush (v := 64) hx hb dX15_core_14 (by decide) ?_
      have hPc : va_P D vwCl [] _ := hP.sub (ws' := []) [] rfl
      have hDc : va_D (fun q => z0 ≤ q) [] := (hD.to hAz).pick (ws' := []) [] (by decide) rfl
      have hFc := AnA (ws := [((a 200), f_m a g), ((a 207), .inr (5, [.int 0, .ref (g 100), .int 0]))]) hS.1
      refine va_calli (va_runS (As := [.int p1, .int 1, .int 64]) (rest := [.ref (a 200)]) ⟨hx, hb, hml, hown, ht⟩ (k_X15_isBetween_v6 l D g z0 _ a p1) (va_cwS 3 ht (gS w_369 w_371 w_334 w_370) rfl rfl rfl (by decide +kernel) (le2 rfl rfl)) ⟨PP.blind, PP.mk' hK hZ hz hAz hS hPc hDc⟩ rfl rfl hl.1 rfl (lv_room (Nat.le_of_ble_eq_true rfl)) dX15_core_16 (le2 rfl rfl)) hS (fun q _ h => hFc q h) hFc (fun r u t H locs ht1 hvm hw hB hz1 hk1 hS => ?_)
      rcases hw with hw | hw
      · obtain ⟨rfl, hw⟩ := hw
        rcases hw with hw | hw
        · have c_11 := hw
          have hP := ro1 hP hk1
          refine lv_if_eq (tgt := 33) hx hb dX15_core_19 (by decide) (fun c_12 => ?_) (fun c_12 => ?_)
          · refine lv_iconst (v := 1) hx hb dX15_core_33 (by decide) ?_
            refine lv_goto (tgt := 56) hx hb dX15_core_34 (by decide) ?_
            have hPc : va_P D vwCl [((a 200), f_m a g)] _ := hP.sub (ws' := [((a 200), f_m a g)]) [0] rfl
            have hDc : va_D (fun q => z0 ≤ q) [((a 200), f_m a g)] := (hD.to hAz).pick (ws' := [((a 200), f_m a g)]) [0] (by decide) rfl
            have hFc := va_free (wc := [((a 200), f_m a g)]) hD hS hA [0] rfl
            refine va_calli (va_runV (As := [.int 1]) (rest := []) ⟨hx, hb, hml, hown, ht⟩ (k_X15_isWrong l D g z0 _ a) (cwV 1 ht (gV w_376 w_378 w_379 w_334 w_377) rfl rfl rfl (by decide +kernel) (le2 rfl rfl)) ⟨PP.blind, va_recv hK.1 hP (ci := 21) (q0 := 0) rfl rfl, PP.mk' hK hZ hz hAz hS hPc hDc⟩ rfl rfl hl.1 rfl (lv_room (Nat.le_of_ble_eq_true rfl)) dX15_core_56 (le2 rfl rfl)) hS (fun q _ h => hFc q h) hFc (fun r u t H locs ht1 hvm hw hB hz1 hk1 hS => ?_)
            obtain ⟨rfl, hw⟩ := hw
            obtain ⟨hP1, hD1⟩ := hB
            rw [ht1] at hP1
            obtain ⟨hP, hD⟩ := va_join (wr := [((a 207), .inr (5, [.int 0, .ref (g 100), .int 0]))]) (w1 := [((a 200), .inr (21, [.int 1, .ref (a 201), .ref (a 202), .ref (a 203), .ref (a 204), .ref (a 205), .ref (a 206), .int 0, .int 0, .int 0, .int 0, .ref (a 208), .ref (a 209), .ref (a 210), .ref (a 211), .ref (a 212), .int 4, .int 12, .int (-1), .int 0, .ref (g 200), .ref (a 213), .int 0, .int 97, .ref (a 214), .ref (a 215), .ref (a 207), .null, .int 0]))]) hP hD [0] [1] rfl rfl (by decide) (by decide) hk1 hFc hP1 hD1
            have hP : va_P D vwCl [((a 207), .inr (5, [.int 0, .ref (g 100), .int 0])), ((a 200), .inr (21, [.int 1, .ref (a 201), .ref (a 202), .ref (a 203), .ref (a 204), .ref (a 205), .ref (a 206), .int 0, .int 0, .int 0, .int 0, .ref (a 208), .ref (a 209), .ref (a 210), .ref (a 211), .ref (a 212), .int 4, .int 12, .int (-1), .int 0, .ref (g 200), .ref (a 213), .int 0, .int 97, .ref (a 214), .ref (a 215), .ref (a 207), .null, .int 0]))] H := hP
            have hD : va_D (va_A [((a 200), f_m a g), ((a 207), .inr (5, [.int 0, .ref (g 100), .int 0]))] s.heap.size) [((a 207), .inr (5, [.int 0, .ref (g 100), .int 0])), ((a 200), .inr (21, [.int 1, .ref (a 201), .ref (a 202), .ref (a 203), .ref (a 204), .ref (a 205), .ref (a 206), .int 0, .int 0, .int 0, .int 0, .ref (a 208), .ref (a 209), .ref (a 210), .ref (a 211), .ref (a 212), .int 4, .int 12, .int (-1), .int 0, .ref (g 200), .ref (a 213), .int 0, .int 97, .ref (a 214), .ref (a 215), .ref (a 207), .null, .int 0]))] := hD
            refine lv_if_eq (tgt := 64) hx hb dX15_core_59 (by decide) (fun c_13 => ?_) (fun c_13 => ?_)
            · exact absurd c_13 (by decide)
            · refine lv_iconst (v := 0) hx hb dX15_core_62 (by decide) ?_
              have hP9 := hP.sub (ws' := [((a 200), .inr (21, [.int 1, .ref (a 201), .ref (a 202), .ref (a 203), .ref (a 204), .ref (a 205), .ref (a 206), .int 0, .int 0, .int 0, .int 0, .ref (a 208), .ref (a 209), .ref (a 210), .ref (a 211), .ref (a 212), .int 4, .int 12, .int (-1), .int 0, .ref (g 200), .ref (a 213), .int 0, .int 97, .ref (a 214), .ref (a 215), .ref (a 207), .null, .int 0]))]) [1] rfl
              have hD9 := hD.sub (ws' := [((a 200), .inr (21, [.int 1, .ref (a 201), .ref (a 202), .ref (a 203), .ref (a 204), .ref (a 205), .ref (a 206), .int 0, .int 0, .int 0, .int 0, .ref (a 208), .ref (a 209), .ref (a 210), .ref (a 211), .ref (a 212), .int 4, .int 12, .int (-1), .int 0, .ref (g 200), .ref (a 213), .int 0, .int 97, .ref (a 214), .ref (a 215), .ref (a 207), .null, .int 0]))]) [1] (by decide) rfl
              refine W.widen (k := 2) (n := 13) (Nat.le_of_ble_eq_true rfl) (Nat.le_of_ble_eq_true rfl) ?_
              exact W.iret (v := 0) hx hb hr (fun t ht9 hW9 => ⟨⟨0, 1, rfl, (Or.inl ⟨rfl, rfl, (Or.inr (Or.inr (Or.inl ⟨c_8, c_9, c_11⟩)))⟩), ⟨(by rw [ht9]; exact hP9), hD9⟩⟩, hS.F ht9⟩) hS.2.2 dX15_core_63 hlocks
          · exact absurd c_12 (by decide)
        · obtain ⟨c_14, c_15⟩ := hw
          have hP := ro1 hP hk1
          refine lv_if_eq (tgt := 33) hx hb dX15_core_19 (by decide) (fun c_16 => ?_) (fun c_16 => ?_)
          · refine lv_iconst (v := 1) hx hb dX15_core_33 (by decide) ?_
            refine lv_goto (tgt := 56) hx hb dX15_core_34 (by decide) ?_
            have hPc : va_P D vwCl [((a 200), f_m a g)] _ := hP.sub (ws' := [((a 200), f_m a g)]) [0] rfl
            have hDc : va_D (fun q => z0 ≤ q) [((a 200), f_m a g)] := (hD.to hAz).pick (ws' := [((a 200), f_m a g)]) [0] (by decide) rfl
            have hFc := va_free (wc := [((a 200), f_m a g)]) hD hS hA [0] rfl
            refine va_calli (va_runV (As := [.int 1]) (rest := []) ⟨hx, hb, hml, hown, ht⟩ (k_X15_isWrong l D g z0 _ a) (cwV 1 ht (gV w_376 w_378 w_379 w_334 w_377) rfl rfl rfl (by decide +kernel) (le2 rfl rfl)) ⟨PP.blind, va_recv hK.1 hP (ci := 21) (q0 := 0) rfl rfl, PP.mk' hK hZ hz hAz hS hPc hDc⟩ rfl rfl hl.1 rfl (lv_room (Nat.le_of_ble_eq_true rfl)) dX15_core_56 (le2 rfl rfl)) hS (fun q _ h => hFc q h) hFc (fun r u t H locs ht1 hvm hw hB hz1 hk1 hS => ?_)
            obtain ⟨rfl, hw⟩ := hw
            obtain ⟨hP1, hD1⟩ := hB
            rw [ht1] at hP1
            obtain ⟨hP, hD⟩ := va_join (wr := [((a 207), .inr (5, [.int 0, .ref (g 100), .int 0]))]) (w1 := [((a 200), .inr (21, [.int 1, .ref (a 201), .ref (a 202), .ref (a 203), .ref (a 204), .ref (a 205), .ref (a 206), .int 0, .int 0, .int 0, .int 0, .ref (a 208), .ref (a 209), .ref (a 210), .ref (a 211), .ref (a 212), .int 4, .int 12, .int (-1), .int 0, .ref (g 200), .ref (a 213), .int 0, .int 97, .ref (a 214), .ref (a 215), .ref (a 207), .null, .int 0]))]) hP hD [0] [1] rfl rfl (by decide) (by decide) hk1 hFc hP1 hD1
            have hP : va_P D vwCl [((a 207), .inr (5, [.int 0, .ref (g 100), .int 0])), ((a 200), .inr (21, [.int 1, .ref (a 201), .ref (a 202), .ref (a 203), .ref (a 204), .ref (a 205), .ref (a 206), .int 0, .int 0, .int 0, .int 0, .ref (a 208), .ref (a 209), .ref (a 210), .ref (a 211), .ref (a 212), .int 4, .int 12, .int (-1), .int 0, .ref (g 200), .ref (a 213), .int 0, .int 97, .ref (a 214), .ref (a 215), .ref (a 207), .null, .int 0]))] H := hP
            have hD : va_D (va_A [((a 200), f_m a g), ((a 207), .inr (5, [.int 0, .ref (g 100), .int 0]))] s.heap.size) [((a 207), .inr (5, [.int 0, .ref (g 100), .int 0])), ((a 200), .inr (21, [.int 1, .ref (a 201), .ref (a 202), .ref (a 203), .ref (a 204), .ref (a 205), .ref (a 206), .int 0, .int 0, .int 0, .int 0, .ref (a 208), .ref (a 209), .ref (a 210), .ref (a 211), .ref (a 212), .int 4, .int 12, .int (-1), .int 0, .ref (g 200), .ref (a 213), .int 0, .int 97, .ref (a 214), .ref (a 215), .ref (a 207), .null, .int 0]))] := hD
            refine lv_if_eq (tgt := 64) hx hb dX15_core_59 (by decide) (fun c_17 => ?_) (fun c_17 => ?_)
            · exact absurd c_17 (by decide)
            · refine lv_iconst (v := 0) hx hb dX15_core_62 (by decide) ?_
              have hP9 := hP.sub (ws' := [((a 200), .inr (21, [.int 1, .ref (a 201), .ref (a 202), .ref (a 203), .ref (a 204), .ref (a 205), .ref (a 206), .int 0, .int 0, .int 0, .int 0, .ref (a 208), .ref (a 209), .ref (a 210), .ref (a 211), .ref (a 212), .int 4, .int 12, .int (-1), .int 0, .ref (g 200), .ref (a 213), .int 0, .int 97, .ref (a 214), .ref (a 215), .ref (a 207), .null, .int 0]))]) [1] rfl
              have hD9 := hD.sub (ws' := [((a 200), .inr (21, [.int 1, .ref (a 201), .ref (a 202), .ref (a 203), .ref (a 204), .ref (a 205), .ref (a 206), .int 0, .int 0, .int 0, .int 0, .ref (a 208), .ref (a 209), .ref (a 210), .ref (a 211), .ref (a 212), .int 4, .int 12, .int (-1), .int 0, .ref (g 200), .ref (a 213), .int 0, .int 97, .ref (a 214), .ref (a 215), .ref (a 207), .null, .int 0]))]) [1] (by decide) rfl
              refine W.widen (k := 2) (n := 13) (Nat.le_of_ble_eq_true rfl) (Nat.le_of_ble_eq_true rfl) ?_
              exact W.iret (v := 0) hx hb hr (fun t ht9 hW9 => ⟨⟨0, 1, rfl, (Or.inl ⟨rfl, rfl, (Or.inr (Or.inr (Or.inr (Or.inl ⟨c_8, c_9, c_14, c_15⟩))))⟩), ⟨(by rw [ht9]; exact hP9), hD9⟩⟩, hS.F ht9⟩) hS.2.2 dX15_core_63 hlocks
          · exact absurd c_16 (by decide)
      · obtain ⟨rfl, hw⟩ := hw
        obtain ⟨c_18, c_19⟩ := hw
        have hP := ro1 hP hk1
        refine lv_if_eq (tgt := 33) hx hb dX15_core_19 (by decide) (fun c_20 => ?_) (fun c_20 => ?_)
        · exact absurd c_20 (by decide)
        · refine lv_iload_n hx hb dX15_core_22 rfl (lv_at hl 3 rfl) ?_
          refine lv_iconst (v := 0) hx hb dX15_core_23 (by decide) ?_
          refine lv_sipush (v := 999) hx hb dX15_core_24 (by decide) ?_
          have hPc : va_P D vwCl [] _ := hP.sub (ws' := []) [] rfl
          have hDc : va_D (fun q => z0 ≤ q) [] := (hD.to hAz).pick (ws' := []) [] (by decide) rfl
          have hFc := AnA (ws := [((a 200), f_m a g), ((a 207), .inr (5, [.int 0, .ref (g 100), .int 0]))]) hS.1
          refine va_calli (va_runS (As := [.int p2, .int 0, .int 999]) (rest := [.ref (a 200)]) ⟨hx, hb, hml, hown, ht⟩ (k_X15_isBetween_v7 l D g z0 _ a p2) (va_cwS 3 ht (gS w_369 w_371 w_334 w_370) rfl rfl rfl (by decide +kernel) (le2 rfl rfl)) ⟨PP.blind, PP.mk' hK hZ hz hAz hS hPc hDc⟩ rfl rfl hl.1 rfl (lv_room (Nat.le_of_ble_eq_true rfl)) dX15_core_27 (le2 rfl rfl)) hS (fun q _ h => hFc q h) hFc (fun r u t H locs ht1 hvm hw hB hz1 hk1 hS => ?_)
          rcases hw with hw | hw
          · obtain ⟨rfl, hw⟩ := hw
            rcases hw with hw | hw
            · have c_21 := hw
              have hP := ro1 hP hk1
              refine lv_if_ne (tgt := 37) hx hb dX15_core_30 (by decide) (fun c_22 => ?_) (fun c_22 => ?_)
              · exact absurd c_22 (by decide)
              · refine lv_iconst (v := 1) hx hb dX15_core_33 (by decide) ?_
                refine lv_goto (tgt := 56) hx hb dX15_core_34 (by decide) ?_
                have hPc : va_P D vwCl [((a 200), f_m a g)] _ := hP.sub (ws' := [((a 200), f_m a g)]) [0] rfl
                have hDc : va_D (fun q => z0 ≤ q) [((a 200), f_m a g)] := (hD.to hAz).pick (ws' := [((a 200), f_m a g)]) [0] (by decide) rfl
                have hFc := va_free (wc := [((a 200), f_m a g)]) hD hS hA [0] rfl
                refine va_calli (va_runV (As := [.int 1]) (rest := []) ⟨hx, hb, hml, hown, ht⟩ (k_X15_isWrong l D g z0 _ a) (cwV 1 ht (gV w_376 w_378 w_379 w_334 w_377) rfl rfl rfl (by decide +kernel) (le2 rfl rfl)) ⟨PP.blind, va_recv hK.1 hP (ci := 21) (q0 := 0) rfl rfl, PP.mk' hK hZ hz hAz hS hPc hDc⟩ rfl rfl hl.1 rfl (lv_room (Nat.le_of_ble_eq_true rfl)) dX15_core_56 (le2 rfl rfl)) hS (fun q _ h => hFc q h) hFc (fun r u t H locs ht1 hvm hw hB hz1 hk1 hS => ?_)
                obtain ⟨rfl, hw⟩ := hw
                obtain ⟨hP1, hD1⟩ := hB
                rw [ht1] at hP1
                obtain ⟨hP, hD⟩ := va_join (wr := [((a 207), .inr (5, [.int 0, .ref (g 100), .int 0]))]) (w1 := [((a 200), .inr (21, [.int 1, .ref (a 201), .ref (a 202), .ref (a 203), .ref (a 204), .ref (a 205), .ref (a 206), .int 0, .int 0, .int 0, .int 0, .ref (a 208), .ref (a 209), .ref (a 210), .ref (a 211), .ref (a 212), .int 4, .int 12, .int (-1), .int 0, .ref (g 200), .ref (a 213), .int 0, .int 97, .ref (a 214), .ref (a 215), .ref (a 207), .null, .int 0]))]) hP hD [0] [1] rfl rfl (by decide) (by decide) hk1 hFc hP1 hD1
                have hP : va_P D vwCl [((a 207), .inr (5, [.int 0, .ref (g 100), .int 0])), ((a 200), .inr (21, [.int 1, .ref (a 201), .ref (a 202), .ref (a 203), .ref (a 204), .ref (a 205), .ref (a 206), .int 0, .int 0, .int 0, .int 0, .ref (a 208), .ref (a 209), .ref (a 210), .ref (a 211), .ref (a 212), .int 4, .int 12, .int (-1), .int 0, .ref (g 200), .ref (a 213), .int 0, .int 97, .ref (a 214), .ref (a 215), .ref (a 207), .null, .int 0]))] H := hP
                have hD : va_D (va_A [((a 200), f_m a g), ((a 207), .inr (5, [.int 0, .ref (g 100), .int 0]))] s.heap.size) [((a 207), .inr (5, [.int 0, .ref (g 100), .int 0])), ((a 200), .inr (21, [.int 1, .ref (a 201), .ref (a 202), .ref (a 203), .ref (a 204), .ref (a 205), .ref (a 206), .int 0, .int 0, .int 0, .int 0, .ref (a 208), .ref (a 209), .ref (a 210), .ref (a 211), .ref (a 212), .int 4, .int 12, .int (-1), .int 0, .ref (g 200), .ref (a 213), .int 0, .int 97, .ref (a 214), .ref (a 215), .ref (a 207), .null, .int 0]))] := hD
                refine lv_if_eq (tgt := 64) hx hb dX15_core_59 (by decide) (fun c_23 => ?_) (fun c_23 => ?_)
                · exact absurd c_23 (by decide)
                · refine lv_iconst (v := 0) hx hb dX15_core_62 (by decide) ?_
                  have hP9 := hP.sub (ws' := [((a 200), .inr (21, [.int 1, .ref (a 201), .ref (a 202), .ref (a 203), .ref (a 204), .ref (a 205), .ref (a 206), .int 0, .int 0, .int 0, .int 0, .ref (a 208), .ref (a 209), .ref (a 210), .ref (a 211), .ref (a 212), .int 4, .int 12, .int (-1), .int 0, .ref (g 200), .ref (a 213), .int 0, .int 97, .ref (a 214), .ref (a 215), .ref (a 207), .null, .int 0]))]) [1] rfl
                  have hD9 := hD.sub (ws' := [((a 200), .inr (21, [.int 1, .ref (a 201), .ref (a 202), .ref (a 203), .ref (a 204), .ref (a 205), .ref (a 206), .int 0, .int 0, .int 0, .int 0, .ref (a 208), .ref (a 209), .ref (a 210), .ref (a 211), .ref (a 212), .int 4, .int 12, .int (-1), .int 0, .ref (g 200), .ref (a 213), .int 0, .int 97, .ref (a 214), .ref (a 215), .ref (a 207), .null, .int 0]))]) [1] (by decide) rfl
                  refine W.widen (k := 2) (n := 13) (Nat.le_of_ble_eq_true rfl) (Nat.le_of_ble_eq_true rfl) ?_
                  exact W.iret (v := 0) hx hb hr (fun t ht9 hW9 => ⟨⟨0, 1, rfl, (Or.inl ⟨rfl, rfl, (Or.inr (Or.inr (Or.inr (Or.inr (Or.inl ⟨c_8, c_9, c_18, c_19, c_21⟩)))))⟩), ⟨(by rw [ht9]; exact hP9), hD9⟩⟩, hS.F ht9⟩) hS.2.2 dX15_core_63 hlocks
            · obtain ⟨c_24, c_25⟩ := hw
              have hP := ro1 hP hk1
              refine lv_if_ne (tgt := 37) hx hb dX15_core_30 (by decide) (fun c_26 => ?_) (fun c_26 => ?_)
              · exact absurd c_26 (by decide)
              · refine lv_iconst (v := 1) hx hb dX15_core_33 (by decide) ?_
                refine lv_goto (tgt := 56) hx hb dX15_core_34 (by decide) ?_
                have hPc : va_P D vwCl [((a 200), f_m a g)] _ := hP.sub (ws' := [((a 200), f_m a g)]) [0] rfl
                have hDc : va_D (fun q => z0 ≤ q) [((a 200), f_m a g)] := (hD.to hAz).pick (ws' := [((a 200), f_m a g)]) [0] (by decide) rfl
                have hFc := va_free (wc := [((a 200), f_m a g)]) hD hS hA [0] rfl
                refine va_calli (va_runV (As := [.int 1]) (rest := []) ⟨hx, hb, hml, hown, ht⟩ (k_X15_isWrong l D g z0 _ a) (cwV 1 ht (gV w_376 w_378 w_379 w_334 w_377) rfl rfl rfl (by decide +kernel) (le2 rfl rfl)) ⟨PP.blind, va_recv hK.1 hP (ci := 21) (q0 := 0) rfl rfl, PP.mk' hK hZ hz hAz hS hPc hDc⟩ rfl rfl hl.1 rfl (lv_room (Nat.le_of_ble_eq_true rfl)) dX15_core_56 (le2 rfl rfl)) hS (fun q _ h => hFc q h) hFc (fun r u t H locs ht1 hvm hw hB hz1 hk1 hS => ?_)
                obtain ⟨rfl, hw⟩ := hw
                obtain ⟨hP1, hD1⟩ := hB
                rw [ht1] at hP1
                obtain ⟨hP, hD⟩ := va_join (wr := [((a 207), .inr (5, [.int 0, .ref (g 100), .int 0]))]) (w1 := [((a 200), .inr (21, [.int 1, .ref (a 201), .ref (a 202), .ref (a 203), .ref (a 204), .ref (a 205), .ref (a 206), .int 0, .int 0, .int 0, .int 0, .ref (a 208), .ref (a 209), .ref (a 210), .ref (a 211), .ref (a 212), .int 4, .int 12, .int (-1), .int 0, .ref (g 200), .ref (a 213), .int 0, .int 97, .ref (a 214), .ref (a 215), .ref (a 207), .null, .int 0]))]) hP hD [0] [1] rfl rfl (by decide) (by decide) hk1 hFc hP1 hD1
                have hP : va_P D vwCl [((a 207), .inr (5, [.int 0, .ref (g 100), .int 0])), ((a 200), .inr (21, [.int 1, .ref (a 201), .ref (a 202), .ref (a 203), .ref (a 204), .ref (a 205), .ref (a 206), .int 0, .int 0, .int 0, .int 0, .ref (a 208), .ref (a 209), .ref (a 210), .ref (a 211), .ref (a 212), .int 4, .int 12, .int (-1), .int 0, .ref (g 200), .ref (a 213), .int 0, .int 97, .ref (a 214), .ref (a 215), .ref (a 207), .null, .int 0]))] H := hP
                have hD : va_D (va_A [((a 200), f_m a g), ((a 207), .inr (5, [.int 0, .ref (g 100), .int 0]))] s.heap.size) [((a 207), .inr (5, [.int 0, .ref (g 100), .int 0])), ((a 200), .inr (21, [.int 1, .ref (a 201), .ref (a 202), .ref (a 203), .ref (a 204), .ref (a 205), .ref (a 206), .int 0, .int 0, .int 0, .int 0, .ref (a 208), .ref (a 209), .ref (a 210), .ref (a 211), .ref (a 212), .int 4, .int 12, .int (-1), .int 0, .ref (g 200), .ref (a 213), .int 0, .int 97, .ref (a 214), .ref (a 215), .ref (a 207), .null, .int 0]))] := hD
                refine lv_if_eq (tgt := 64) hx hb dX15_core_59 (by decide) (fun c_27 => ?_) (fun c_27 => ?_)
                · exact absurd c_27 (by decide)
                · refine lv_iconst (v := 0) hx hb dX15_core_62 (by decide) ?_
                  have hP9 := hP.sub (ws' := [((a 200), .inr (21, [.int 1, .ref (a 201), .ref (a 202), .ref (a 203), .ref (a 204), .ref (a 205), .ref (a 206), .int 0, .int 0, .int 0, .int 0, .ref (a 208), .ref (a 209), .ref (a 210), .ref (a 211), .ref (a 212), .int 4, .int 12, .int (-1), .int 0, .ref (g 200), .ref (a 213), .int 0, .int 97, .ref (a 214), .ref (a 215), .ref (a 207), .null, .int 0]))]) [1] rfl
                  have hD9 := hD.sub (ws' := [((a 200), .inr (21, [.int 1, .ref (a 201), .ref (a 202), .ref (a 203), .ref (a 204), .ref (a 205), .ref (a 206), .int 0, .int 0, .int 0, .int 0, .ref (a 208), .ref (a 209), .ref (a 210), .ref (a 211), .ref (a 212), .int 4, .int 12, .int (-1), .int 0, .ref (g 200), .ref (a 213), .int 0, .int 97, .ref (a 214), .ref (a 215), .ref (a 207), .null, .int 0]))]) [1] (by decide) rfl
                  refine W.widen (k := 2) (n := 13) (Nat.le_of_ble_eq_true rfl) (Nat.le_of_ble_eq_true rfl) ?_
                  exact W.iret (v := 0) hx hb hr (fun t ht9 hW9 => ⟨⟨0, 1, rfl, (Or.inl ⟨rfl, rfl, (Or.inr (Or.inr (Or.inr (Or.inr (Or.inr ⟨c_8, c_9, c_18, c_19, c_24, c_25⟩)))))⟩), ⟨(by rw [ht9]; exact hP9), hD9⟩⟩, hS.F ht9⟩) hS.2.2 dX15_core_63 hlocks
          · obtain ⟨rfl, hw⟩ := hw
            obtain ⟨c_28, c_29⟩ := hw
            have hP := ro1 hP hk1
            refine lv_if_ne (tgt := 37) hx hb dX15_core_30 (by decide) (fun c_30 => ?_) (fun c_30 => ?_)
            · refine lv_aload_n hx hb dX15_core_37 rfl (lv_at hl 0 rfl) ?_
              refine va_get (D := D) (ci := 21) (v := .ref (a 207)) (C := RX15) (T := TX15) (N := 29) hx hb ht in_X15 hown hK.1 hP 0 rfl rfl 26 (by decide) (ht _ w_381) (fun _ h9 => h9) rfl dX15_core_38 ?_
              have hPc : va_P D vwCl [((a 207), .inr (5, [.int 0, .ref (g 100), .int 0]))] _ := hP.sub (ws' := [((a 207), .inr (5, [.int 0, .ref (g 100), .int 0]))]) [1] rfl
              have hDc : va_D (fun q => z0 ≤ q) [((a 207), .inr (5, [.int 0, .ref (g 100), .int 0]))] := (hD.to hAz).pick (ws' := [((a 207), .inr (5, [.int 0, .ref (g 100), .int 0]))]) [1] (by decide) rfl
              have hFc := AnA (ws := [((a 200), f_m a g), ((a 207), .inr (5, [.int 0, .ref (g 100), .int 0]))]) hS.1
              refine va_callFi (va_runF (As := []) (rest := [.ref (a 200)]) (hK.1.1 5 _ rfl).2 ⟨hx, hb, hml, hown, ht⟩ (k_Jx4a65c_size_8abf5 l D g z0 _ a (a 207)) (va_cwF 0 ht (gF w_356 w_358 w_359 w_323 w_357) rfl rfl rfl (hK.2.2.2.1 _ (List.mem_of_getElem? (i := 0) rfl)) (by decide +kernel) (le2 rfl rfl)) ⟨PP.blind, va_recv hK.1 hP (ci := 5) (q0 := 1) rfl rfl, PP.mk' hK hZ hz hAz hS hPc hDc⟩ rfl rfl hl.1 rfl (lv_room (Nat.le_of_ble_eq_true rfl)) dX15_core_41 (le2 rfl rfl)) hS (fun q _ h => hFc q h) hFc (fun r u t H locs ht1 hvm hw hB hz1 hk1 hS => ?_)
              obtain ⟨rfl, hw⟩ := hw
              have hP := ro1 hP hk1
              refine lv_bipush (v := 6) hx hb dX15_core_46 (by decide) ?_
              refine lv_icmp_ne (tgt := 55) hx hb dX15_core_48 (by decide) (fun c_31 => ?_) (fun c_31 => ?_)
              · refine lv_iconst (v := 0) hx hb dX15_core_55 (by decide) ?_
                have hPc : va_P D vwCl [((a 200), f_m a g)] _ := hP.sub (ws' := [((a 200), f_m a g)]) [0] rfl
                have hDc : va_D (fun q => z0 ≤ q) [((a 200), f_m a g)] := (hD.to hAz).pick (ws' := [((a 200), f_m a g)]) [0] (by decide) rfl
                have hFc := va_free (wc := [((a 200), f_m a g)]) hD hS hA [0] rfl
                refine va_calli (va_runV (As := [.int 0]) (rest := []) ⟨hx, hb, hml, hown, ht⟩ (k_X15_isWrong_v1 l D g z0 _ a) (cwV 1 ht (gV w_376 w_378 w_379 w_334 w_377) rfl rfl rfl (by decide +kernel) (le2 rfl rfl)) ⟨PP.blind, va_recv hK.1 hP (ci := 21) (q0 := 0) rfl rfl, PP.mk' hK hZ hz hAz hS hPc hDc⟩ rfl rfl hl.1 rfl (lv_room (Nat.le_of_ble_eq_true rfl)) dX15_core_56 (le2 rfl rfl)) hS (fun q _ h => hFc q h) hFc (fun r u t H locs ht1 hvm hw hB hz1 hk1 hS => ?_)
                obtain ⟨rfl, hw⟩ := hw
                obtain ⟨hP1, hD1⟩ := hB
                rw [ht1] at hP1
                obtain ⟨hP, hD⟩ := va_join (wr := [((a 207), .inr (5, [.int 0, .ref (g 100), .int 0]))]) (w1 := [((a 200), f_m a g)]) hP hD [0] [1] rfl rfl (by decide) (by decide) hk1 hFc hP1 hD1
                have hP : va_P D vwCl [((a 207), .inr (5, [.int 0, .ref (g 100), .int 0])), ((a 200), f_m a g)] H := hP
                have hD : va_D (va_A [((a 200), f_m a g), ((a 207), .inr (5, [.int 0, .ref (g 100), .int 0]))] s.heap.size) [((a 207), .inr (5, [.int 0, .ref (g 100), .int 0])), ((a 200), f_m a g)] := hD
                refine lv_if_eq (tgt := 64) hx hb dX15_core_59 (by decide) (fun c_32 => ?_) (fun c_32 => ?_)
                · refine lv_aload_n hx hb dX15_core_64 rfl (lv_at hl 0 rfl) ?_
                  refine va_get (D := D) (ci := 21) (v := .ref (a 207)) (C := RX15) (T := TX15) (N := 29) hx hb ht in_X15 hown hK.1 hP 1 rfl rfl 26 (by decide) (ht _ w_381) (fun _ h9 => h9) rfl dX15_core_65 ?_
                  refine lv_iconst (v := 3) hx hb dX15_core_68 (by decide) ?_
                  refine r_newa (atype := .int) (cy := g 0) (a0 := (3, .inl (fun _ => 0))) hx hb (ht _ w_353) hK.2.1.1 hP hD hS hA (fun _ => rfl) (by decide) (by decide) (by decide) (Nat.le_of_ble_eq_true rfl) (Nat.le_of_ble_eq_true rfl) dX15_core_69 (fun q_33 H hP hD hS => ?_)
                  have hP : va_P D vwCl [((a 207), .inr (5, [.int 0, .ref (g 100), .int 0])), ((a 200), f_m a g), (q_33, .inl (g 0, 3, .inl (fun _ => 0)))] H := hP
                  have hD : va_D (va_A [((a 200), f_m a g), ((a 207), .inr (5, [.int 0, .ref (g 100), .int 0]))] s.heap.size) [((a 207), .inr (5, [.int 0, .ref (g 100), .int 0])), ((a 200), f_m a g), (q_33, .inl (g 0, 3, .inl (fun _ => 0)))] := hD
                  refine lv_dup hx hb dX15_core_71 rfl ?_
                  refine lv_iconst (v := 0) hx hb dX15_core_72 (by decide) ?_
                  refine lv_iload_n hx hb dX15_core_73 rfl (lv_at hl 1 rfl) ?_
                  refine va_iast hx hb hK.1 hP hD hS 2 0 rfl rfl (by unfold vp_in; decide) dX15_core_74 (fun H locs hP hD hS => ?_)
                  have hP : va_P D vwCl [((a 207), .inr (5, [.int 0, .ref (g 100), .int 0])), ((a 200), f_m a g), (q_33, .inl (g 0, 3, .inl (upd (fun _ => 0) (0 : Int32).toNatClampNeg p0)))] H := hP
                  have hD : va_D (va_A [((a 200), f_m a g), ((a 207), .inr (5, [.int 0, .ref (g 100), .int 0]))] s.heap.size) [((a 207), .inr (5, [.int 0, .ref (g 100), .int 0])), ((a 200), f_m a g), (q_33, .inl (g 0, 3, .inl (upd (fun _ => 0) (0 : Int32).toNatClampNeg p0)))] := hD
                  refine lv_dup hx hb dX15_core_75 rfl ?_
                  refine lv_iconst (v := 1) hx hb dX15_core_76 (by decide) ?_
                  refine lv_iload_n hx hb dX15_core_77 rfl (lv_at hl 2 rfl) ?_
                  refine va_iast hx hb hK.1 hP hD hS 2 0 rfl rfl (by unfold vp_in; decide) dX15_core_78 (fun H locs hP hD hS => ?_)
                  have hP : va_P D vwCl [((a 207), .inr (5, [.int 0, .ref (g 100), .int 0])), ((a 200), f_m a g), (q_33, .inl (g 0, 3, .inl (upd (upd (fun _ => 0) (0 : Int32).toNatClampNeg p0) (1 : Int32).toNatClampNeg p1)))] H := hP
                  have hD : va_D (va_A [((a 200), f_m a g), ((a 207), .inr (5, [.int 0, .ref (g 100), .int 0]))] s.heap.size) [((a 207), .inr (5, [.int 0, .ref (g 100), .int 0])), ((a 200), f_m a g), (q_33, .inl (g 0, 3, .inl (upd (upd (fun _ => 0) (0 : Int32).toNatClampNeg p0) (1 : Int32).toNatClampNeg p1)))] := hD
                  refine lv_dup hx hb dX15_core_79 rfl ?_
                  refine lv_iconst (v := 2) hx hb dX15_core_80 (by decide) ?_
                  refine lv_iload_n hx hb dX15_core_81 rfl (lv_at hl 3 rfl) ?_
                  refine va_iast hx hb hK.1 hP hD hS 2 0 rfl rfl (by unfold vp_in; decide) dX15_core_82 (fun H locs hP hD hS => ?_)
                  have hP : va_P D vwCl [((a 207), .inr (5, [.int 0, .ref (g 100), .int 0])), ((a 200), f_m a g), (q_33, .inl (g 0, 3, .inl (upd (upd (upd (fun _ => 0) (0 : Int32).toNatClampNeg p0) (1 : Int32).toNatClampNeg p1) (2 : Int32).toNatClampNeg p2)))] H := hP
                  have hD : va_D (va_A [((a 200), f_m a g), ((a 207), .inr (5, [.int 0, .ref (g 100), .int 0]))] s.heap.size) [((a 207), .inr (5, [.int 0, .ref (g 100), .int 0])), ((a 200), f_m a g), (q_33, .inl (g 0, 3, .inl (upd (upd (upd (fun _ => 0) (0 : Int32).toNatClampNeg p0) (1 : Int32).toNatClampNeg p1) (2 : Int32).toNatClampNeg p2)))] := hD
                  have hPc : va_P D vwCl [((a 207), .inr (5, [.int 0, .ref (g 100), .int 0])), (q_33, .inl (g 0, 3, .inl (upd (upd (upd (fun _ => 0) (0 : Int32).toNatClampNeg p0) (1 : Int32).toNatClampNeg p1) (2 : Int32).toNatClampNeg p2)))] _ := hP.sub (ws' := [((a 207), .inr (5, [.int 0, .ref (g 100), .int 0])), (q_33, .inl (g 0, 3, .inl (upd (upd (upd (fun _ => 0) (0 : Int32).toNatClampNeg p0) (1 : Int32).toNatClampNeg p1) (2 : Int32).toNatClampNeg p2)))]) [0, 2] rfl
                  have hDc : va_D (fun q => z0 ≤ q) [((a 207), .inr (5, [.int 0, .ref (g 100), .int 0])), (q_33, .inl (g 0, 3, .inl (upd (upd (upd (fun _ => 0) (0 : Int32).toNatClampNeg p0) (1 : Int32).toNatClampNeg p1) (2 : Int32).toNatClampNeg p2)))] := (hD.to hAz).pick (ws' := [((a 207), .inr (5, [.int 0, .ref (g 100), .int 0])), (q_33, .inl (g 0, 3, .inl (upd (upd (upd (fun _ => 0) (0 : Int32).toNatClampNeg p0) (1 : Int32).toNatClampNeg p1) (2 : Int32).toNatClampNeg p2)))]) [0, 2] (by decide) rfl
                  have hFc := va_free (wc := [((a 207), .inr (5, [.int 0, .ref (g 100), .int 0])), (q_33, .inl (g 0, 3, .inl (upd (upd (upd (fun _ => 0) (0 : Int32).toNatClampNeg p0) (1 : Int32).toNatClampNeg p1) (2 : Int32).toNatClampNeg p2)))]) hD hS hA [0, 2] rfl
                  refine va_callFi (va_runF (As := [.ref q_33]) (rest := []) (hK.1.1 5 _ rfl).2 ⟨hx, hb, hml, hown, ht⟩ (k_Jx4a65c_add_9ea2d_v2 l D g z0 _ a (a 207) q_33 (upd (upd (upd (fun _ => 0) (0 : Int32).toNatClampNeg p0) (1 : Int32).toNatClampNeg p1) (2 : Int32).toNatClampNeg p2)) (va_cwF 1 ht (gF w_472 w_474 w_475 w_323 w_473) rfl rfl rfl (hK.2.2.2.1 _ (List.mem_of_getElem? (i := 1) rfl)) (by decide +kernel) (le2 rfl rfl)) ⟨PP.blind, va_recv hK.1 hP (ci := 5) (q0 := 0) rfl rfl, PP.mk' hK hZ hz hAz hS hPc hDc⟩ rfl rfl hl.1 rfl (lv_room (Nat.le_of_ble_eq_true rfl)) dX15_core_83 (le2 rfl rfl)) hS (fun q _ h => hFc q h) hFc (fun r u t H locs ht1 hvm hw hB hz1 hk1 hS => ?_)
                  obtain ⟨rfl, hw⟩ := hw
                  obtain ⟨q_34, hP1, hD1⟩ := hB
                  rw [ht1] at hP1
                  obtain ⟨hP, hD⟩ := va_join (wr := [((a 200), f_m a g)]) (w1 := [(q_33, .inl (g 0, 3, .inl (upd (upd (upd (fun _ => 0) (0 : Int32).toNatClampNeg p0) (1 : Int32).toNatClampNeg p1) (2 : Int32).toNatClampNeg p2))), ((a 207), .inr (5, [.int 1, .ref q_34, .int 1])), (q_34, .inl (g 8, 10, .inr (.inr (.inr (.inr (va_up (fun _ => none) (0 : Int32).toNatClampNeg (some q_33)))))))]) hP hD [0, 2] [1] rfl rfl (by decide) (by decide) hk1 hFc hP1 hD1
                  have hP : va_P D vwCl [((a 200), f_m a g), (q_33, .inl (g 0, 3, .inl (upd (upd (upd (fun _ => 0) (0 : Int32).toNatClampNeg p0) (1 : Int32).toNatClampNeg p1) (2 : Int32).toNatClampNeg p2))), ((a 207), .inr (5, [.int 1, .ref q_34, .int 1])), (q_34, .inl (g 8, 10, .inr (.inr (.inr (.inr (va_up (fun _ => none) (0 : Int32).toNatClampNeg (some q_33)))))))] H := hP
                  have hD : va_D (va_A [((a 200), f_m a g), ((a 207), .inr (5, [.int 0, .ref (g 100), .int 0]))] s.heap.size) [((a 200), f_m a g), (q_33, .inl (g 0, 3, .inl (upd (upd (upd (fun _ => 0) (0 : Int32).toNatClampNeg p0) (1 : Int32).toNatClampNeg p1) (2 : Int32).toNatClampNeg p2))), ((a 207), .inr (5, [.int 1, .ref q_34, .int 1])), (q_34, .inl (g 8, 10, .inr (.inr (.inr (.inr (va_up (fun _ => none) (0 : Int32).toNatClampNeg (some q_33)))))))] := hD
                  refine lv_pop hx hb dX15_core_88 rfl ?_
                  refine lv_aload_n hx hb dX15_core_89 rfl (lv_at hl 0 rfl) ?_
                  refine va_get (D := D) (ci := 21) (v := .ref (a 207)) (C := RX15) (T := TX15) (N := 29) hx hb ht in_X15 hown hK.1 hP 0 rfl rfl 26 (by decide) (ht _ w_381) (fun _ h9 => h9) rfl dX15_core_90 ?_
                  have hPc : va_P D vwCl [((a 207), .inr (5, [.int 1, .ref q_34, .int 1]))] _ := hP.sub (ws' := [((a 207), .inr (5, [.int 1, .ref q_34, .int 1]))]) [2] rfl
                  have hDc : va_D (fun q => z0 ≤ q) [((a 207), .inr (5, [.int 1, .ref q_34, .int 1]))] := (hD.to hAz).pick (ws' := [((a 207), .inr (5, [.int 1, .ref q_34, .int 1]))]) [2] (by decide) rfl
                  have hFc := AnA (ws := [((a 200), f_m a g), ((a 207), .inr (5, [.int 0, .ref (g 100), .int 0]))]) hS.1
                  refine va_callFi (va_runF (As := []) (rest := []) (hK.1.1 5 _ rfl).2 ⟨hx, hb, hml, hown, ht⟩ (k_Jx4a65c_size_8abf5_v1 l D g z0 _ a (a 207) q_34) (va_cwF 0 ht (gF w_356 w_358 w_359 w_323 w_357) rfl rfl rfl (hK.2.2.2.1 _ (List.mem_of_getElem? (i := 0) rfl)) (by decide +kernel) (le2 rfl rfl)) ⟨PP.blind, va_recv hK.1 hP (ci := 5) (q0 := 2) rfl rfl, PP.mk' hK hZ hz hAz hS hPc hDc⟩ rfl rfl hl.1 rfl (lv_room (Nat.le_of_ble_eq_true rfl)) dX15_core_93 (le2 rfl rfl)) hS (fun q _ h => hFc q h) hFc (fun r u t H locs ht1 hvm hw hB hz1 hk1 hS => ?_)
                  obtain ⟨rfl, hw⟩ := hw
                  have hP := ro1 hP hk1
                  refine lv_iconst (v := 1) hx hb dX15_core_98 (by decide) ?_
                  refine lv_isub hx hb dX15_core_99 ?_
                  refine r_topi (v := 0) (by decide) ?_
                  have hP9 := hP.sub (ws' := [((a 200), f_m a g)]) [0] rfl
                  have hD9 := hD.sub (ws' := [((a 200), f_m a g)]) [0] (by decide) rfl
                  refine W.widen (k := 2) (n := 13) (Nat.le_of_ble_eq_true rfl) (Nat.le_of_ble_eq_true rfl) ?_
                  exact W.iret (v := 0) hx hb hr (fun t ht9 hW9 => ⟨⟨0, 0, rfl, (Or.inr ⟨rfl, rfl, ⟨c_8, c_9, c_18, c_19, c_28, c_29⟩⟩), ⟨(by rw [ht9]; exact hP9), hD9⟩⟩, hS.F ht9⟩) hS.2.2 dX15_core_100 hlocks
                · exact absurd c_32 (by decide)
              · exact absurd c_31 (by decide)
            · exact absurd c_30 (by decide)
set_option maxHeartbeats 4000000 in
set_option maxRecDepth 100000 in
theorem k_J0_isLatin1_aae02_v1 (l : Launch) (D : va_G) (g : Nat → ClassId) (z0 sz : Nat) (a : Nat → Nat) : Met l yJ0_isLatin1_aae02 (.code yJ0_isLatin1_aae02 cJ0_isLatin1_aae02 1 (some .boolean) :: TG) (rmk 0 0 0 0) (va_Pc [.ref (g 203)] (PP D g z0 sz [])) (va_Qi (fun (r : Int32) (u : Unit) => (r = 1) ∧ True) (fun (_ : Unit) (_ : State) => True) (va_A [] sz)) 0 0 (va_A [] sz) := by
  refine met0 (cc := cJ0_isLatin1_aae02) (n := 1) (by decide) (Nat.le_of_ble_eq_true rfl) ?_
  intro p e s m args below meth c hx hb hr hml hown ht hlocks hnm hP0 hD0 hK hZ hsz hz ls hl
  subst hsz
  have hA : ∀ q : Nat, s.heap.size ≤ q → va_A [] s.heap.size q := Anw
  have hAz : ∀ q, va_A [] s.heap.size q → z0 ≤ q := A0z hz
  have hS : va_S (va_A [] s.heap.size) s.heap s.heap [] := va_S.rf
  have hl : lv_has ls 1 [(0, .ref (g 203))] := hl
  refine va_gets (C := "java/lang/String") (n := "COMPACT_STRINGS") (d := "Z") (v := .int 1) hx hb (hZ.m hAz).2.2.2.1 hS hown (ht _ w_388) (fun _ h9 => h9) dJ0_isLatin1_aae02_0 ?_
  refine lv_if_eq (tgt := 17) hx hb dJ0_isLatin1_aae02_3 (by decide) (fun c_1 => ?_) (fun c_1 => ?_)
  · exact absurd c_1 (by decide)
  · refine lv_aload_n hx hb dJ0_isLatin1_aae02_6 rfl (lv_at hl 0 rfl) ?_
    refine vk_getf (v := .int 0) hx hb ((hZ.m hAz).2.2.1.1 3 (by decide)).2.1 hS hown (ht _ w_389) (fun _ h9 => h9) dJ0_isLatin1_aae02_7 ?_
    refine lv_if_ne (tgt := 17) hx hb dJ0_isLatin1_aae02_10 (by decide) (fun c_2 => ?_) (fun c_2 => ?_)
    · exact absurd c_2 (by decide)
    · refine lv_iconst (v := 1) hx hb dJ0_isLatin1_aae02_13 (by decide) ?_
      refine lv_goto (tgt := 18) hx hb dJ0_isLatin1_aae02_14 (by decide) ?_
      refine W.widen (k := 0) (n := 0) (Nat.le_of_ble_eq_true rfl) (Nat.le_of_ble_eq_true rfl) ?_
      exact W.zret (v := 1) hx hb hr rfl (fun t ht9 hW9 => ⟨⟨1, (), rfl, ⟨rfl, trivial⟩, trivial⟩, hS.F ht9⟩) hS.2.2 dJ0_isLatin1_aae02_18 hlocks
set_option maxHeartbeats 4000000 in
set_option maxRecDepth 100000 in
theorem k_J0_coder_7d493_v1 (l : Launch) (D : va_G) (g : Nat → ClassId) (z0 sz : Nat) (a : Nat → Nat) : Met l yJ0_coder_7d493 (.code yJ0_coder_7d493 cJ0_coder_7d493 1 (some .byte) :: TG) (rmk 0 0 0 0) (va_Pc [.ref (g 203)] (PP D g z0 sz [])) (va_Qi (fun (r : Int32) (u : Unit) => (r = 0) ∧ True) (fun (_ : Unit) (_ : State) => True) (va_A [] sz)) 0 0 (va_A [] sz) := by
  refine met0 (cc := cJ0_coder_7d493) (n := 1) (by decide) (Nat.le_of_ble_eq_true rfl) ?_
  intro p e s m args below meth c hx hb hr hml hown ht hlocks hnm hP0 hD0 hK hZ hsz hz ls hl
  subst hsz
  have hA : ∀ q : Nat, s.heap.size ≤ q → va_A [] s.heap.size q := Anw
  have hAz : ∀ q, va_A [] s.heap.size q → z0 ≤ q := A0z hz
  have hS : va_S (va_A [] s.heap.size) s.heap s.heap [] := va_S.rf
  have hl : lv_has ls 1 [(0, .ref (g 203))] := hl
  refine va_gets (C := "java/lang/String") (n := "COMPACT_STRINGS") (d := "Z") (v := .int 1) hx hb (hZ.m hAz).2.2.2.1 hS hown (ht _ w_388) (fun _ h9 => h9) dJ0_coder_7d493_0 ?_
  refine lv_if_eq (tgt := 13) hx hb dJ0_coder_7d493_3 (by decide) (fun c_1 => ?_) (fun c_1 => ?_)
  · exact absurd c_1 (by decide)
  · refine lv_aload_n hx hb dJ0_coder_7d493_6 rfl (lv_at hl 0 rfl) ?_
    refine vk_getf (v := .int 0) hx hb ((hZ.m hAz).2.2.1.1 3 (by decide)).2.1 hS hown (ht _ w_389) (fun _ h9 => h9) dJ0_coder_7d493_7 ?_
    refine lv_goto (tgt := 14) hx hb dJ0_coder_7d493_10 (by decide) ?_
    refine W.widen (k := 0) (n := 0) (Nat.le_of_ble_eq_true rfl) (Nat.le_of_ble_eq_true rfl) ?_
    exact W.zret (v := 0) hx hb hr rfl (fun t ht9 hW9 => ⟨⟨0, (), rfl, ⟨rfl, trivial⟩, trivial⟩, hS.F ht9⟩) hS.2.2 dJ0_coder_7d493_14 hlocks
set_option maxHeartbeats 4000000 in
set_option maxRecDepth 100000 in
theorem k_J0_length_8abf5_v1 (l : Launch) (D : va_G) (g : Nat → ClassId) (z0 sz : Nat) (a : Nat → Nat) : Met l yJ0_length_8abf5 (.code yJ0_length_8abf5 cJ0_length_8abf5 1 (some .int) :: TG) (rmk 1 0 0 20) (va_Pc [.ref (g 203)] (PP D g z0 sz [])) (va_Qi (fun (r : Int32) (u : Unit) => (r = 3) ∧ True) (fun (_ : Unit) (_ : State) => True) (va_A [] sz)) 0 0 (va_A [] sz) := by
  refine met0 (cc := cJ0_length_8abf5) (n := 1) (by decide) (Nat.le_of_ble_eq_true rfl) ?_
  intro p e s m args below meth c hx hb hr hml hown ht hlocks hnm hP0 hD0 hK hZ hsz hz ls hl
  subst hsz
  have hA : ∀ q : Nat, s.heap.size ≤ q → va_A [] s.heap.size q := Anw
  have hAz : ∀ q, va_A [] s.heap.size q → z0 ≤ q := A0z hz
  have hS : va_S (va_A [] s.heap.size) s.heap s.heap [] := va_S.rf
  have hl : lv_has ls 1 [(0, .ref (g 203))] := hl
  refine lv_aload_n hx hb dJ0_length_8abf5_0 rfl (lv_at hl 0 rfl) ?_
  refine vk_getf (v := .ref (g 303)) hx hb ((hZ.m hAz).2.2.1.1 3 (by decide)).2.2.1 hS hown (ht _ w_395) (fun _ h9 => h9) dJ0_length_8abf5_1 ?_
  refine va_tlen (v := 3) hx hb ((hZ.m hAz).2.2.1.1 3 (by decide)).2.2.2 hS rfl dJ0_length_8abf5_4 ?_
  refine lv_aload_n hx hb dJ0_length_8abf5_5 rfl (lv_at hl 0 rfl) ?_
  have hPc : va_P D vwCl [] _ := (ro0 hP0 hS).sub (ws' := []) [] rfl
  have hDc : va_D (fun q => z0 ≤ q) [] := hD0.pick (ws' := []) [] (by decide) rfl
  have hFc := AnA (ws := []) hS.1
  refine va_calli (va_runV (As := []) (rest := [.int 3]) ⟨hx, hb, hml, hown, ht⟩ (k_J0_coder_7d493_v1 l D g z0 _ a) (cwV 0 ht (gV w_396 w_398 w_399 w_394 w_397) rfl rfl rfl (by decide +kernel) (le2 rfl rfl)) ⟨PP.blind, vk_recv (i := 3) (hZ.m hAz).2.2.1 (by decide) hS, PP.mk' hK hZ hz hAz hS hPc hDc⟩ rfl rfl hl.1 rfl (lv_room (Nat.le_of_ble_eq_true rfl)) dJ0_length_8abf5_6 (le2 rfl rfl)) hS (fun q _ h => hFc q h) hFc (fun r u t H locs ht1 hvm hw hB hz1 hk1 hS => ?_)
  obtain ⟨rfl, hw⟩ := hw
  refine lv_ishr hx hb dJ0_length_8abf5_9 ?_
  refine r_topi (v := 3) (by decide) ?_
  refine W.widen (k := 0) (n := 0) (Nat.le_of_ble_eq_true rfl) (Nat.le_of_ble_eq_true rfl) ?_
  exact W.iret (v := 3) hx hb hr (fun t ht9 hW9 => ⟨⟨3, (), rfl, ⟨rfl, trivial⟩, trivial⟩, hS.F ht9⟩) hS.2.2 dJ0_length_8abf5_10 hlocks
set_option maxHeartbeats 4000000 in
set_option maxRecDepth 100000 in
theorem k_J1_indexOfChar_4cfef_v1 (l : Launch) (D : va_G) (g : Nat → ClassId) (z0 sz : Nat) (a : Nat → Nat) (p0 : Int32) : Met l yJ1_indexOfChar_4cfef (.code yJ1_indexOfChar_4cfef cJ1_indexOfChar_4cfef 6 (some .int) :: TG) (rmk 0 0 0 0) (va_Pc [.ref (g 303), .int p0, .int 0, .int 3] (PP D g z0 sz [])) (va_Qi (fun (r : Int32) (u : Unit) => ((r = (-1)) ∧ ((¬ 115 = p0.toInt8.toInt32) ∧ (¬ 112 = p0.toInt8.toInt32) ∧ (¬ 100 = p0.toInt8.toInt32))) ∨ ((r = 2) ∧ ((¬ 115 = p0.toInt8.toInt32) ∧ (¬ 112 = p0.toInt8.toInt32) ∧ (100 = p0.toInt8.toInt32))) ∨ ((r = 1) ∧ ((¬ 115 = p0.toInt8.toInt32) ∧ (112 = p0.toInt8.toInt32))) ∨ ((r = 0) ∧ (115 = p0.toInt8.toInt32))) (fun (_ : Unit) (_ : State) => True) (va_A [] sz)) 0 0 (va_A [] sz) := by
  refine met0 (cc := cJ1_indexOfChar_4cfef) (n := 6) (by decide) (Nat.le_of_ble_eq_true rfl) ?_
  intro p e s m args below meth c hx hb hr hml hown ht hlocks hnm hP0 hD0 hK hZ hsz hz ls hl
  subst hsz
  have hA : ∀ q : Nat, s.heap.size ≤ q → va_A [] s.heap.size q := Anw
  have hAz : ∀ q, va_A [] s.heap.size q → z0 ≤ q := A0z hz
  have hS : va_S (va_A [] s.heap.size) s.heap s.heap [] := va_S.rf
  have hl : lv_has ls 6 [(0, .ref (g 303)), (1, .int p0), (2, .int 0), (3, .int 3)] := hl
  refine lv_iload_n hx hb dJ1_indexOfChar_4cfef_0 rfl (lv_at hl 1 rfl) ?_
  refine lv_i2b (v := p0.toInt8.toInt32) hx hb dJ1_indexOfChar_4cfef_1 rfl ?_
  refine lv_istore (lv' := [(4, .int p0.toInt8.toInt32), (0, .ref (g 303)), (1, .int p0), (2, .int 0), (3, .int 3)]) hx hb dJ1_indexOfChar_4cfef_2 hl (by decide) rfl (fun ls hl => ?_)
  refine lv_iload_n hx hb dJ1_indexOfChar_4cfef_4 rfl (lv_at hl 3 rfl) ?_
  refine lv_istore (lv' := [(5, .int 0), (4, .int p0.toInt8.toInt32), (0, .ref (g 303)), (1, .int p0), (2, .int 0), (3, .int 3)]) hx hb dJ1_indexOfChar_4cfef_5 hl (by decide) rfl (fun ls hl => ?_)
  refine lv_iload hx hb dJ1_indexOfChar_4cfef_7 (lv_at hl 0 rfl) ?_
  refine lv_iload_n hx hb dJ1_indexOfChar_4cfef_9 rfl (lv_at hl 5 rfl) ?_
  refine lv_icmp_ge (tgt := 31) hx hb dJ1_indexOfChar_4cfef_10 (by decide) (fun c_1 => ?_) (fun c_1 => ?_)
  · exact absurd c_1 (by decide)
  · refine lv_aload_n hx hb dJ1_indexOfChar_4cfef_13 rfl (lv_at hl 2 rfl) ?_
    refine lv_iload hx hb dJ1_indexOfChar_4cfef_14 (lv_at hl 0 rfl) ?_
    refine va_tb (v := .int 115) hx hb ((hZ.m hAz).2.2.1.1 3 (by decide)).2.2.2 hS (by unfold vp_in; decide) rfl dJ1_indexOfChar_4cfef_16 ?_
    refine lv_iload hx hb dJ1_indexOfChar_4cfef_17 (lv_at hl 1 rfl) ?_
    refine lv_icmp_ne (tgt := 25) hx hb dJ1_indexOfChar_4cfef_19 (by decide) (fun c_2 => ?_) (fun c_2 => ?_)
    · refine lv_iinc (v := 1) (lv' := [(5, .int 1), (4, .int p0.toInt8.toInt32), (0, .ref (g 303)), (1, .int p0), (2, .int 0), (3, .int 3)]) hx hb dJ1_indexOfChar_4cfef_25 hl (k := 0) rfl (by decide) (by decide) rfl (fun ls hl => ?_)
      refine lv_goto (tgt := 7) hx hb dJ1_indexOfChar_4cfef_28 (by decide) ?_
      refine lv_iload hx hb dJ1_indexOfChar_4cfef_7 (lv_at hl 0 rfl) ?_
      refine lv_iload_n hx hb dJ1_indexOfChar_4cfef_9 rfl (lv_at hl 5 rfl) ?_
      refine lv_icmp_ge (tgt := 31) hx hb dJ1_indexOfChar_4cfef_10 (by decide) (fun c_3 => ?_) (fun c_3 => ?_)
      · exact absurd c_3 (by decide)
      · refine lv_aload_n hx hb dJ1_indexOfChar_4cfef_13 rfl (lv_at hl 2 rfl) ?_
        refine lv_iload hx hb dJ1_indexOfChar_4cfef_14 (lv_at hl 0 rfl) ?_
        refine va_tb (v := .int 112) hx hb ((hZ.m hAz).2.2.1.1 3 (by decide)).2.2.2 hS (by unfold vp_in; decide) rfl dJ1_indexOfChar_4cfef_16 ?_
        refine lv_iload hx hb dJ1_indexOfChar_4cfef_17 (lv_at hl 1 rfl) ?_
        refine lv_icmp_ne (tgt := 25) hx hb dJ1_indexOfChar_4cfef_19 (by decide) (fun c_4 => ?_) (fun c_4 => ?_)
        · refine lv_iinc (v := 2) (lv' := [(5, .int 2), (4, .int p0.toInt8.toInt32), (0, .ref (g 303)), (1, .int p0), (2, .int 0), (3, .int 3)]) hx hb dJ1_indexOfChar_4cfef_25 hl (k := 0) rfl (by decide) (by decide) rfl (fun ls hl => ?_)
          refine lv_goto (tgt := 7) hx hb dJ1_indexOfChar_4cfef_28 (by decide) ?_
          refine lv_iload hx hb dJ1_indexOfChar_4cfef_7 (lv_at hl 0 rfl) ?_
          refine lv_iload_n hx hb dJ1_indexOfChar_4cfef_9 rfl (lv_at hl 5 rfl) ?_
          refine lv_icmp_ge (tgt := 31) hx hb dJ1_indexOfChar_4cfef_10 (by decide) (fun c_5 => ?_) (fun c_5 => ?_)
          · exact absurd c_5 (by decide)
          · refine lv_aload_n hx hb dJ1_indexOfChar_4cfef_13 rfl (lv_at hl 2 rfl) ?_
            refine lv_iload hx hb dJ1_indexOfChar_4cfef_14 (lv_at hl 0 rfl) ?_
            refine va_tb (v := .int 100) hx hb ((hZ.m hAz).2.2.1.1 3 (by decide)).2.2.2 hS (by unfold vp_in; decide) rfl dJ1_indexOfChar_4cfef_16 ?_
            refine lv_iload hx hb dJ1_indexOfChar_4cfef_17 (lv_at hl 1 rfl) ?_
            refine lv_icmp_ne (tgt := 25) hx hb dJ1_indexOfChar_4cfef_19 (by decide) (fun c_6 => ?_) (fun c_6 => ?_)
            · refine lv_iinc (v := 3) (lv' := [(5, .int 3), (4, .int p0.toInt8.toInt32), (0, .ref (g 303)), (1, .int p0), (2, .int 0), (3, .int 3)]) hx hb dJ1_indexOfChar_4cfef_25 hl (k := 0) rfl (by decide) (by decide) rfl (fun ls hl => ?_)
              refine lv_goto (tgt := 7) hx hb dJ1_indexOfChar_4cfef_28 (by decide) ?_
              refine lv_iload hx hb dJ1_indexOfChar_4cfef_7 (lv_at hl 0 rfl) ?_
              refine lv_iload_n hx hb dJ1_indexOfChar_4cfef_9 rfl (lv_at hl 5 rfl) ?_
              refine lv_icmp_ge (tgt := 31) hx hb dJ1_indexOfChar_4cfef_10 (by decide) (fun c_7 => ?_) (fun c_7 => ?_)
              · refine lv_iconst (v := (-1)) hx hb dJ1_indexOfChar_4cfef_31 (by decide) ?_
                refine W.widen (k := 0) (n := 0) (Nat.le_of_ble_eq_true rfl) (Nat.le_of_ble_eq_true rfl) ?_
                exact W.iret (v := (-1)) hx hb hr (fun t ht9 hW9 => ⟨⟨(-1), (), rfl, (Or.inl ⟨rfl, ⟨c_2, c_4, c_6⟩⟩), trivial⟩, hS.F ht9⟩) hS.2.2 dJ1_indexOfChar_4cfef_32 hlocks
              · exact absurd c_7 (by decide)
            · refine lv_iload hx hb dJ1_indexOfChar_4cfef_22 (lv_at hl 0 rfl) ?_
              refine W.widen (k := 0) (n := 0) (Nat.le_of_ble_eq_true rfl) (Nat.le_of_ble_eq_true rfl) ?_
              exact W.iret (v := 2) hx hb hr (fun t ht9 hW9 => ⟨⟨2, (), rfl, (Or.inr (Or.inl ⟨rfl, ⟨c_2, c_4, c_6⟩⟩)), trivial⟩, hS.F ht9⟩) hS.2.2 dJ1_indexOfChar_4cfef_24 hlocks
        · refine lv_iload hx hb dJ1_indexOfChar_4cfef_22 (lv_at hl 0 rfl) ?_
          refine W.widen (k := 0) (n := 0) (Nat.le_of_ble_eq_true rfl) (Nat.le_of_ble_eq_true rfl) ?_
          exact W.iret (v := 1) hx hb hr (fun t ht9 hW9 => ⟨⟨1, (), rfl, (Or.inr (Or.inr (Or.inl ⟨rfl, ⟨c_2, c_4⟩⟩))), trivial⟩, hS.F ht9⟩) hS.2.2 dJ1_indexOfChar_4cfef_24 hlocks
    · refine lv_iload hx hb dJ1_indexOfChar_4cfef_22 (lv_at hl 0 rfl) ?_
      refine W.widen (k := 0) (n := 0) (Nat.le_of_ble_eq_true rfl) (Nat.le_of_ble_eq_true rfl) ?_
      exact W.iret (v := 0) hx hb hr (fun t ht9 hW9 => ⟨⟨0, (), rfl, (Or.inr (Or.inr (Or.inr ⟨rfl, c_2⟩))), trivial⟩, hS.F ht9⟩) hS.2.2 dJ1_indexOfChar_4cfef_24 hlocks
set_option maxHeartbeats 4000000 in
set_option maxRecDepth 100000 in
theorem k_J1_indexOf_4cfef_v1 (l : Launch) (D : va_G) (g : Nat → ClassId) (z0 sz : Nat) (a : Nat → Nat) (p0 : Int32) : Met l yJ1_indexOf_4cfef (.code yJ1_indexOf_4cfef cJ1_indexOf_4cfef 4 (some .int) :: TG) (rmk 1 0 0 25) (va_Pc [.ref (g 303), .int p0, .int 0, .int 3] (PP D g z0 sz [])) (va_Qi (fun (r : Int32) (u : Unit) => ((r = (-1)) ∧ ((p0 < 0) ∨ ((¬ p0 < 0) ∧ ((255 : Int32) < p0)) ∨ ((¬ p0 < 0) ∧ (¬ (255 : Int32) < p0) ∧ (¬ 115 = p0.toInt8.toInt32) ∧ (¬ 112 = p0.toInt8.toInt32) ∧ (¬ 100 = p0.toInt8.toInt32)))) ∨ ((r = 2) ∧ ((¬ p0 < 0) ∧ (¬ (255 : Int32) < p0) ∧ (¬ 115 = p0.toInt8.toInt32) ∧ (¬ 112 = p0.toInt8.toInt32) ∧ (100 = p0.toInt8.toInt32))) ∨ ((r = 1) ∧ ((¬ p0 < 0) ∧ (¬ (255 : Int32) < p0) ∧ (¬ 115 = p0.toInt8.toInt32) ∧ (112 = p0.toInt8.toInt32))) ∨ ((r = 0) ∧ ((¬ p0 < 0) ∧ (¬ (255 : Int32) < p0) ∧ (115 = p0.toInt8.toInt32)))) (fun (_ : Unit) (_ : State) => True) (va_A [] sz)) 0 0 (va_A [] sz) := by
  refine met0 (cc := cJ1_indexOf_4cfef) (n := 4) (by decide) (Nat.le_of_ble_eq_true rfl) ?_
  intro p e s m args below meth c hx hb hr hml hown ht hlocks hnm hP0 hD0 hK hZ hsz hz ls hl
  subst hsz
  have hA : ∀ q : Nat, s.heap.size ≤ q → va_A [] s.heap.size q := Anw
  have hAz : ∀ q, va_A [] s.heap.size q → z0 ≤ q := A0z hz
  have hS : va_S (va_A [] s.heap.size) s.heap s.heap [] := va_S.rf
  have hl : lv_has ls 4 [(0, .ref (g 303)), (1, .int p0), (2, .int 0), (3, .int 3)] := hl
  refine lv_iload_n hx hb dJ1_indexOf_4cfef_0 rfl (lv_at hl 1 rfl) ?_
  have hPc : va_P D vwCl [] _ := (ro0 hP0 hS).sub (ws' := []) [] rfl
  have hDc : va_D (fun q => z0 ≤ q) [] := hD0.pick (ws' := []) [] (by decide) rfl
  have hFc := AnA (ws := []) hS.1
  refine va_calli (va_runS (As := [.int p0]) (rest := []) ⟨hx, hb, hml, hown, ht⟩ (k_J1_canEncode_9a6ad l D g z0 _ a p0) (va_cwS 1 ht (gS w_404 w_406 w_407 w_405) rfl rfl rfl (by decide +kernel) (le2 rfl rfl)) ⟨PP.blind, PP.mk' hK hZ hz hAz hS hPc hDc⟩ rfl rfl hl.1 rfl (lv_room (Nat.le_of_ble_eq_true rfl)) dJ1_indexOf_4cfef_1 (le2 rfl rfl)) hS (fun q _ h => hFc q h) hFc (fun r u t H locs ht1 hvm hw hB hz1 hk1 hS => ?_)
  rcases hw with hw | hw
  · obtain ⟨rfl, hw⟩ := hw
    rcases hw with hw | hw
    · have c_1 := hw
      refine lv_if_ne (tgt := 9) hx hb dJ1_indexOf_4cfef_4 (by decide) (fun c_2 => ?_) (fun c_2 => ?_)
      · exact absurd c_2 (by decide)
      · refine lv_iconst (v := (-1)) hx hb dJ1_indexOf_4cfef_7 (by decide) ?_
        refine W.widen (k := 0) (n := 0) (Nat.le_of_ble_eq_true rfl) (Nat.le_of_ble_eq_true rfl) ?_
        exact W.iret (v := (-1)) hx hb hr (fun t ht9 hW9 => ⟨⟨(-1), (), rfl, (Or.inl ⟨rfl, (Or.inl c_1)⟩), trivial⟩, hS.F ht9⟩) hS.2.2 dJ1_indexOf_4cfef_8 hlocks
    · obtain ⟨c_3, c_4⟩ := hw
      refine lv_if_ne (tgt := 9) hx hb dJ1_indexOf_4cfef_4 (by decide) (fun c_5 => ?_) (fun c_5 => ?_)
      · exact absurd c_5 (by decide)
      · refine lv_iconst (v := (-1)) hx hb dJ1_indexOf_4cfef_7 (by decide) ?_
        refine W.widen (k := 0) (n := 0) (Nat.le_of_ble_eq_true rfl) (Nat.le_of_ble_eq_true rfl) ?_
        exact W.iret (v := (-1)) hx hb hr (fun t ht9 hW9 => ⟨⟨(-1), (), rfl, (Or.inl ⟨rfl, (Or.inr (Or.inl ⟨c_3, c_4⟩))⟩), trivial⟩, hS.F ht9⟩) hS.2.2 dJ1_indexOf_4cfef_8 hlocks
  · obtain ⟨rfl, hw⟩ := hw
    obtain ⟨c_6, c_7⟩ := hw
    refine lv_if_ne (tgt := 9) hx hb dJ1_indexOf_4cfef_4 (by decide) (fun c_8 => ?_) (fun c_8 => ?_)
    · refine lv_iload_n hx hb dJ1_indexOf_4cfef_9 rfl (lv_at hl 2 rfl) ?_
      refine lv_iconst (v := 0) hx hb dJ1_indexOf_4cfef_10 (by decide) ?_
      refine va_mmax hx hb (hml.trans hl.1.symm) hown (ht _ w_408) (ht _ w_409) (ht _ w_410) (ht _ w_411) (Nat.le_of_ble_eq_true rfl) (Nat.le_of_ble_eq_true rfl) (Nat.le_of_ble_eq_true rfl) (Nat.le_of_ble_eq_true rfl) dJ1_indexOf_4cfef_11 ?_
      refine r_topi (v := 0) (by decide) ?_
      refine lv_istore_n (lv' := [(2, .int 0), (0, .ref (g 303)), (1, .int p0), (3, .int 3)]) hx hb dJ1_indexOf_4cfef_14 rfl hl (by decide) rfl (fun ls hl => ?_)
      refine lv_iload_n hx hb dJ1_indexOf_4cfef_15 rfl (lv_at hl 3 rfl) ?_
      refine lv_aload_n hx hb dJ1_indexOf_4cfef_16 rfl (lv_at hl 1 rfl) ?_
      refine va_tlen (v := 3) hx hb ((hZ.m hAz).2.2.1.1 3 (by decide)).2.2.2 hS rfl dJ1_indexOf_4cfef_17 ?_
      refine va_mmin hx hb (hml.trans hl.1.symm) hown (ht _ w_412) (ht _ w_413) (ht _ w_410) (ht _ w_414) (Nat.le_of_ble_eq_true rfl) (Nat.le_of_ble_eq_true rfl) (Nat.le_of_ble_eq_true rfl) (Nat.le_of_ble_eq_true rfl) dJ1_indexOf_4cfef_18 ?_
      refine r_topi (v := 3) (by decide) ?_
      refine lv_istore_n (lv' := [(3, .int 3), (2, .int 0), (0, .ref (g 303)), (1, .int p0)]) hx hb dJ1_indexOf_4cfef_21 rfl hl (by decide) rfl (fun ls hl => ?_)
      refine lv_iload_n hx hb dJ1_indexOf_4cfef_22 rfl (lv_at hl 1 rfl) ?_
      refine lv_iload_n hx hb dJ1_indexOf_4cfef_23 rfl (lv_at hl 0 rfl) ?_
      refine lv_icmp_lt (tgt := 29) hx hb dJ1_indexOf_4cfef_24 (by decide) (fun c_9 => ?_) (fun c_9 => ?_)
      · refine lv_aload_n hx hb dJ1_indexOf_4cfef_29 rfl (lv_at hl 2 rfl) ?_
        refine lv_iload_n hx hb dJ1_indexOf_4cfef_30 rfl (lv_at hl 3 rfl) ?_
        refine lv_iload_n hx hb dJ1_indexOf_4cfef_31 rfl (lv_at hl 1 rfl) ?_
        refine lv_iload_n hx hb dJ1_indexOf_4cfef_32 rfl (lv_at hl 0 rfl) ?_
        have hPc : va_P D vwCl [] _ := (ro0 hP0 hS).sub (ws' := []) [] rfl
        have hDc : va_D (fun q => z0 ≤ q) [] := hD0.pick (ws' := []) [] (by decide) rfl
        have hFc := AnA (ws := []) hS.1
        refine va_calli (va_runS (As := [.ref (g 303), .int p0, .int 0, .int 3]) (rest := []) ⟨hx, hb, hml, hown, ht⟩ (k_J1_indexOfChar_4cfef_v1 l D g z0 _ a p0) (va_cwS 4 ht (gS w_415 w_417 w_407 w_416) rfl rfl rfl (by decide +kernel) (le2 rfl rfl)) ⟨PP.blind, PP.mk' hK hZ hz hAz hS hPc hDc⟩ rfl rfl hl.1 rfl (lv_room (Nat.le_of_ble_eq_true rfl)) dJ1_indexOf_4cfef_33 (le2 rfl rfl)) hS (fun q _ h => hFc q h) hFc (fun r u t H locs ht1 hvm hw hB hz1 hk1 hS => ?_)
        rcases hw with hw | hw | hw | hw
        · obtain ⟨rfl, hw⟩ := hw
          obtain ⟨c_10, c_11, c_12⟩ := hw
          refine W.widen (k := 0) (n := 0) (Nat.le_of_ble_eq_true rfl) (Nat.le_of_ble_eq_true rfl) ?_
          exact W.iret (v := (-1)) hx hb hr (fun t ht9 hW9 => ⟨⟨(-1), (), rfl, (Or.inl ⟨rfl, (Or.inr (Or.inr ⟨c_6, c_7, c_10, c_11, c_12⟩))⟩), trivial⟩, hS.F ht9⟩) hS.2.2 dJ1_indexOf_4cfef_36 hlocks
        · obtain ⟨rfl, hw⟩ := hw
          obtain ⟨c_13, c_14, c_15⟩ := hw
          refine W.widen (k := 0) (n := 0) (Nat.le_of_ble_eq_true rfl) (Nat.le_of_ble_eq_true rfl) ?_
          exact W.iret (v := 2) hx hb hr (fun t ht9 hW9 => ⟨⟨2, (), rfl, (Or.inr (Or.inl ⟨rfl, ⟨c_6, c_7, c_13, c_14, c_15⟩⟩)), trivial⟩, hS.F ht9⟩) hS.2.2 dJ1_indexOf_4cfef_36 hlocks
        · obtain ⟨rfl, hw⟩ := hw
          obtain ⟨c_16, c_17⟩ := hw
          refine W.widen (k := 0) (n := 0) (Nat.le_of_ble_eq_true rfl) (Nat.le_of_ble_eq_true rfl) ?_
          exact W.iret (v := 1) hx hb hr (fun t ht9 hW9 => ⟨⟨1, (), rfl, (Or.inr (Or.inr (Or.inl ⟨rfl, ⟨c_6, c_7, c_16, c_17⟩⟩))), trivial⟩, hS.F ht9⟩) hS.2.2 dJ1_indexOf_4cfef_36 hlocks
        · obtain ⟨rfl, hw⟩ := hw
          have c_18 := hw
          refine W.widen (k := 0) (n := 0) (Nat.le_of_ble_eq_true rfl) (Nat.le_of_ble_eq_true rfl) ?_
          exact W.iret (v := 0) hx hb hr (fun t ht9 hW9 => ⟨⟨0, (), rfl, (Or.inr (Or.inr (Or.inr ⟨rfl, ⟨c_6, c_7, c_18⟩⟩))), trivial⟩, hS.F ht9⟩) hS.2.2 dJ1_indexOf_4cfef_36 hlocks
      · exact absurd c_9 (by decide)
    · exact absurd c_8 (by decide)
set_option maxHeartbeats 4000000 in
set_option maxRecDepth 100000 in
theorem k_J0_indexOf_7cf53_v1 (l : Launch) (D : va_G) (g : Nat → ClassId) (z0 sz : Nat) (a : Nat → Nat) (p0 : Int32) : Met l yJ0_indexOf_7cf53 (.code yJ0_indexOf_7cf53 cJ0_indexOf_7cf53 3 (some .int) :: TG) (rmk 2 0 0 48) (va_Pc [.ref (g 203), .int p0, .int 0] (PP D g z0 sz [])) (va_Qi (fun (r : Int32) (u : Unit) => ((r = (-1)) ∧ ((p0 < 0) ∨ ((¬ p0 < 0) ∧ ((255 : Int32) < p0)) ∨ ((¬ p0 < 0) ∧ (¬ (255 : Int32) < p0) ∧ (¬ 115 = p0.toInt8.toInt32) ∧ (¬ 112 = p0.toInt8.toInt32) ∧ (¬ 100 = p0.toInt8.toInt32)))) ∨ ((r = 2) ∧ ((¬ p0 < 0) ∧ (¬ (255 : Int32) < p0) ∧ (¬ 115 = p0.toInt8.toInt32) ∧ (¬ 112 = p0.toInt8.toInt32) ∧ (100 = p0.toInt8.toInt32))) ∨ ((r = 1) ∧ ((¬ p0 < 0) ∧ (¬ (255 : Int32) < p0) ∧ (¬ 115 = p0.toInt8.toInt32) ∧ (112 = p0.toInt8.toInt32))) ∨ ((r = 0) ∧ ((¬ p0 < 0) ∧ (¬ (255 : Int32) < p0) ∧ (115 = p0.toInt8.toInt32)))) (fun (_ : Unit) (_ : State) => True) (va_A [] sz)) 0 0 (va_A [] sz) := by
  refine met0 (cc := cJ0_indexOf_7cf53) (n := 3) (by decide) (Nat.le_of_ble_eq_true rfl) ?_
  intro p e s m args below meth c hx hb hr hml hown ht hlocks hnm hP0 hD0 hK hZ hsz hz ls hl
  subst hsz
  have hA : ∀ q : Nat, s.heap.size ≤ q → va_A [] s.heap.size q := Anw
  have hAz : ∀ q, va_A [] s.heap.size q → z0 ≤ q := A0z hz
  have hS : va_S (va_A [] s.heap.size) s.heap s.heap [] := va_S.rf
  have hl : lv_has ls 3 [(0, .ref (g 203)), (1, .int p0), (2, .int 0)] := hl
  refine lv_aload_n hx hb dJ0_indexOf_7cf53_0 rfl (lv_at hl 0 rfl) ?_
  have hPc : va_P D vwCl [] _ := (ro0 hP0 hS).sub (ws' := []) [] rfl
  have hDc : va_D (fun q => z0 ≤ q) [] := hD0.pick (ws' := []) [] (by decide) rfl
  have hFc := AnA (ws := []) hS.1
  refine va_calli (va_runV (As := []) (rest := []) ⟨hx, hb, hml, hown, ht⟩ (k_J0_isLatin1_aae02_v1 l D g z0 _ a) (cwV 0 ht (gV w_390 w_392 w_393 w_394 w_391) rfl rfl rfl (by decide +kernel) (le2 rfl rfl)) ⟨PP.blind, vk_recv (i := 3) (hZ.m hAz).2.2.1 (by decide) hS, PP.mk' hK hZ hz hAz hS hPc hDc⟩ rfl rfl hl.1 rfl (lv_room (Nat.le_of_ble_eq_true rfl)) dJ0_indexOf_7cf53_1 (le2 rfl rfl)) hS (fun q _ h => hFc q h) hFc (fun r u t H locs ht1 hvm hw hB hz1 hk1 hS => ?_)
  obtain ⟨rfl, hw⟩ := hw
  refine lv_if_eq (tgt := 23) hx hb dJ0_indexOf_7cf53_4 (by decide) (fun c_1 => ?_) (fun c_1 => ?_)
  · exact absurd c_1 (by decide)
  · refine lv_aload_n hx hb dJ0_indexOf_7cf53_7 rfl (lv_at hl 0 rfl) ?_
    refine vk_getf (v := .ref (g 303)) hx hb ((hZ.m hAz).2.2.1.1 3 (by decide)).2.2.1 hS hown (ht _ w_395) (fun _ h9 => h9) dJ0_indexOf_7cf53_8 ?_
    refine lv_iload_n hx hb dJ0_indexOf_7cf53_11 rfl (lv_at hl 1 rfl) ?_
    refine lv_iload_n hx hb dJ0_indexOf_7cf53_12 rfl (lv_at hl 2 rfl) ?_
    refine lv_aload_n hx hb dJ0_indexOf_7cf53_13 rfl (lv_at hl 0 rfl) ?_
    have hPc : va_P D vwCl [] _ := (ro0 hP0 hS).sub (ws' := []) [] rfl
    have hDc : va_D (fun q => z0 ≤ q) [] := hD0.pick (ws' := []) [] (by decide) rfl
    have hFc := AnA (ws := []) hS.1
    refine va_calli (va_runV (As := []) (rest := [.int 0, .int p0, .ref (g 303)]) ⟨hx, hb, hml, hown, ht⟩ (k_J0_length_8abf5_v1 l D g z0 _ a) (cwV 0 ht (gV w_400 w_402 w_403 w_394 w_401) rfl rfl rfl (by decide +kernel) (le2 rfl rfl)) ⟨PP.blind, vk_recv (i := 3) (hZ.m hAz).2.2.1 (by decide) hS, PP.mk' hK hZ hz hAz hS hPc hDc⟩ rfl rfl hl.1 rfl (lv_room (Nat.le_of_ble_eq_true rfl)) dJ0_indexOf_7cf53_14 (le2 rfl rfl)) hS (fun q _ h => hFc q h) hFc (fun r u t H locs ht1 hvm hw hB hz1 hk1 hS => ?_)
    obtain ⟨rfl, hw⟩ := hw
    have hPc : va_P D vwCl [] _ := (ro0 hP0 hS).sub (ws' := []) [] rfl
    have hDc : va_D (fun q => z0 ≤ q) [] := hD0.pick (ws' := []) [] (by decide) rfl
    have hFc := AnA (ws := []) hS.1
    refine va_calli (va_runS (As := [.ref (g 303), .int p0, .int 0, .int 3]) (rest := []) ⟨hx, hb, hml, hown, ht⟩ (k_J1_indexOf_4cfef_v1 l D g z0 _ a p0) (va_cwS 4 ht (gS w_418 w_420 w_407 w_419) rfl rfl rfl (by decide +kernel) (le2 rfl rfl)) ⟨PP.blind, PP.mk' hK hZ hz hAz hS hPc hDc⟩ rfl rfl hl.1 rfl (lv_room (Nat.le_of_ble_eq_true rfl)) dJ0_indexOf_7cf53_17 (le2 rfl rfl)) hS (fun q _ h => hFc q h) hFc (fun r u t H locs ht1 hvm hw hB hz1 hk1 hS => ?_)
    rcases hw with hw | hw | hw | hw
    · obtain ⟨rfl, hw⟩ := hw
      rcases hw with hw | hw | hw
      · have c_2 := hw
        refine lv_goto (tgt := 36) hx hb dJ0_indexOf_7cf53_20 (by decide) ?_
        refine W.widen (k := 0) (n := 0) (Nat.le_of_ble_eq_true rfl) (Nat.le_of_ble_eq_true rfl) ?_
        exact W.iret (v := (-1)) hx hb hr (fun t ht9 hW9 => ⟨⟨(-1), (), rfl, (Or.inl ⟨rfl, (Or.inl c_2)⟩), trivial⟩, hS.F ht9⟩) hS.2.2 dJ0_indexOf_7cf53_36 hlocks
      · obtain ⟨c_3, c_4⟩ := hw
        refine lv_goto (tgt := 36) hx hb dJ0_indexOf_7cf53_20 (by decide) ?_
        refine W.widen (k := 0) (n := 0) (Nat.le_of_ble_eq_true rfl) (Nat.le_of_ble_eq_true rfl) ?_
        exact W.iret (v := (-1)) hx hb hr (fun t ht9 hW9 => ⟨⟨(-1), (), rfl, (Or.inl ⟨rfl, (Or.inr (Or.inl ⟨c_3, c_4⟩))⟩), trivial⟩, hS.F ht9⟩) hS.2.2 dJ0_indexOf_7cf53_36 hlocks
      · obtain ⟨c_5, c_6, c_7, c_8, c_9⟩ := hw
        refine lv_goto (tgt := 36) hx hb dJ0_indexOf_7cf53_20 (by decide) ?_
        refine W.widen (k := 0) (n := 0) (Nat.le_of_ble_eq_true rfl) (Nat.le_of_ble_eq_true rfl) ?_
        exact W.iret (v := (-1)) hx hb hr (fun t ht9 hW9 => ⟨⟨(-1), (), rfl, (Or.inl ⟨rfl, (Or.inr (Or.inr ⟨c_5, c_6, c_7, c_8, c_9⟩))⟩), trivial⟩, hS.F ht9⟩) hS.2.2 dJ0_indexOf_7cf53_36 hlocks
    · obtain ⟨rfl, hw⟩ := hw
      obtain ⟨c_10, c_11, c_12, c_13, c_14⟩ := hw
      refine lv_goto (tgt := 36) hx hb dJ0_indexOf_7cf53_20 (by decide) ?_
      refine W.widen (k := 0) (n := 0) (Nat.le_of_ble_eq_true rfl) (Nat.le_of_ble_eq_true rfl) ?_
      exact W.iret (v := 2) hx hb hr (fun t ht9 hW9 => ⟨⟨2, (), rfl, (Or.inr (Or.inl ⟨rfl, ⟨c_10, c_11, c_12, c_13, c_14⟩⟩)), trivial⟩, hS.F ht9⟩) hS.2.2 dJ0_indexOf_7cf53_36 hlocks
    · obtain ⟨rfl, hw⟩ := hw
      obtain ⟨c_15, c_16, c_17, c_18⟩ := hw
      refine lv_goto (tgt := 36) hx hb dJ0_indexOf_7cf53_20 (by decide) ?_
      refine W.widen (k := 0) (n := 0) (Nat.le_of_ble_eq_true rfl) (Nat.le_of_ble_eq_true rfl) ?_
      exact W.iret (v := 1) hx hb hr (fun t ht9 hW9 => ⟨⟨1, (), rfl, (Or.inr (Or.inr (Or.inl ⟨rfl, ⟨c_15, c_16, c_17, c_18⟩⟩))), trivial⟩, hS.F ht9⟩) hS.2.2 dJ0_indexOf_7cf53_36 hlocks
    · obtain ⟨rfl, hw⟩ := hw
      obtain ⟨c_19, c_20, c_21⟩ := hw
      refine lv_goto (tgt := 36) hx hb dJ0_indexOf_7cf53_20 (by decide) ?_
      refine W.widen (k := 0) (n := 0) (Nat.le_of_ble_eq_true rfl) (Nat.le_of_ble_eq_true rfl) ?_
      exact W.iret (v := 0) hx hb hr (fun t ht9 hW9 => ⟨⟨0, (), rfl, (Or.inr (Or.inr (Or.inr ⟨rfl, ⟨c_19, c_20, c_21⟩⟩))), trivial⟩, hS.F ht9⟩) hS.2.2 dJ0_indexOf_7cf53_36 hlocks
set_option maxHeartbeats 4000000 in
set_option maxRecDepth 100000 in
theorem k_J0_indexOf_0f7a4_v1 (l : Launch) (D : va_G) (g : Nat → ClassId) (z0 sz : Nat) (a : Nat → Nat) (p0 : Int32) : Met l yJ0_indexOf_0f7a4 (.code yJ0_indexOf_0f7a4 cJ0_indexOf_0f7a4 2 (some .int) :: TG) (rmk 3 0 0 70) (va_Pc [.ref (g 203), .int p0] (PP D g z0 sz [])) (va_Qi (fun (r : Int32) (u : Unit) => ((r = (-1)) ∧ (((¬ p0 = 115) ∧ (¬ p0 = 112) ∧ (¬ p0 = 100)) ∨ ((¬ p0 = 115) ∧ (¬ p0 = 112) ∧ (¬ p0 = 100)) ∨ ((¬ p0 = 115) ∧ (¬ p0 = 112) ∧ (¬ p0 = 100)))) ∨ ((r = 2) ∧ (p0 = 100)) ∨ ((r = 1) ∧ (p0 = 112)) ∨ ((r = 0) ∧ (p0 = 115))) (fun (_ : Unit) (_ : State) => True) (va_A [] sz)) 0 0 (va_A [] sz) := by
  refine met0 (cc := cJ0_indexOf_0f7a4) (n := 2) (by decide) (Nat.le_of_ble_eq_true rfl) ?_
  intro p e s m args below meth c hx hb hr hml hown ht hlocks hnm hP0 hD0 hK hZ hsz hz ls hl
  subst hsz
  have hA : ∀ q : Nat, s.heap.size ≤ q → va_A [] s.heap.size q := Anw
  have hAz : ∀ q, va_A [] s.heap.size q → z0 ≤ q := A0z hz
  have hS : va_S (va_A [] s.heap.size) s.heap s.heap [] := va_S.rf
  have hl : lv_has ls 2 [(0, .ref (g 203)), (1, .int p0)] := hl
  refine lv_aload_n hx hb dJ0_indexOf_0f7a4_0 rfl (lv_at hl 0 rfl) ?_
  refine lv_iload_n hx hb dJ0_indexOf_0f7a4_1 rfl (lv_at hl 1 rfl) ?_
  refine lv_iconst (v := 0) hx hb dJ0_indexOf_0f7a4_2 (by decide) ?_
  have hPc : va_P D vwCl [] _ := (ro0 hP0 hS).sub (ws' := []) [] rfl
  have hDc : va_D (fun q => z0 ≤ q) [] := hD0.pick (ws' := []) [] (by decide) rfl
  have hFc := AnA (ws := []) hS.1
  refine va_calli (va_runV (As := [.int p0, .int 0]) (rest := []) ⟨hx, hb, hml, hown, ht⟩ (k_J0_indexOf_7cf53_v1 l D g z0 _ a p0) (cwV 2 ht (gV w_421 w_423 w_424 w_394 w_422) rfl rfl rfl (by decide +kernel) (le2 rfl rfl)) ⟨PP.blind, vk_recv (i := 3) (hZ.m hAz).2.2.1 (by decide) hS, PP.mk' hK hZ hz hAz hS hPc hDc⟩ rfl rfl hl.1 rfl (lv_room (Nat.le_of_ble_eq_true rfl)) dJ0_indexOf_0f7a4_3 (le2 rfl rfl)) hS (fun q _ h => hFc q h) hFc (fun r u t H locs ht1 hvm hw hB hz1 hk1 hS => ?_)
  rcases hw with hw | hw | hw | hw
  · obtain ⟨rfl, hw⟩ := hw
    rcases hw with hw | hw | hw
    · have c_1 := hw
      refine W.widen (k := 0) (n := 0) (Nat.le_of_ble_eq_true rfl) (Nat.le_of_ble_eq_true rfl) ?_
      exact W.iret (v := (-1)) hx hb hr (fun t ht9 hW9 => ⟨⟨(-1), (), rfl, (Or.inl ⟨rfl, (Or.inl ⟨(fun h9 => absurd (h9 ▸ c_1) (by decide)), (fun h9 => absurd (h9 ▸ c_1) (by decide)), (fun h9 => absurd (h9 ▸ c_1) (by decide))⟩)⟩), trivial⟩, hS.F ht9⟩) hS.2.2 dJ0_indexOf_0f7a4_6 hlocks
    · obtain ⟨c_2, c_3⟩ := hw
      refine W.widen (k := 0) (n := 0) (Nat.le_of_ble_eq_true rfl) (Nat.le_of_ble_eq_true rfl) ?_
      exact W.iret (v := (-1)) hx hb hr (fun t ht9 hW9 => ⟨⟨(-1), (), rfl, (Or.inl ⟨rfl, (Or.inl ⟨(fun h9 => absurd (h9 ▸ c_3) (by decide)), (fun h9 => absurd (h9 ▸ c_3) (by decide)), (fun h9 => absurd (h9 ▸ c_3) (by decide))⟩)⟩), trivial⟩, hS.F ht9⟩) hS.2.2 dJ0_indexOf_0f7a4_6 hlocks
    · obtain ⟨c_4, c_5, c_6, c_7, c_8⟩ := hw
      refine W.widen (k := 0) (n := 0) (Nat.le_of_ble_eq_true rfl) (Nat.le_of_ble_eq_true rfl) ?_
      exact W.iret (v := (-1)) hx hb hr (fun t ht9 hW9 => ⟨⟨(-1), (), rfl, (Or.inl ⟨rfl, (Or.inl ⟨(fun h9 => c_6 (by rw [h9]; decide)), (fun h9 => c_7 (by rw [h9]; decide)), (fun h9 => c_8 (by rw [h9]; decide))⟩)⟩), trivial⟩, hS.F ht9⟩) hS.2.2 dJ0_indexOf_0f7a4_6 hlocks
  · obtain ⟨rfl, hw⟩ := hw
    obtain ⟨c_9, c_10, c_11, c_12, c_13⟩ := hw
    refine W.widen (k := 0) (n := 0) (Nat.le_of_ble_eq_true rfl) (Nat.le_of_ble_eq_true rfl) ?_
    exact W.iret (v := 2) hx hb hr (fun t ht9 hW9 => ⟨⟨2, (), rfl, (Or.inr (Or.inl ⟨rfl, (ix_eq (n := 100) c_9 c_10 (by decide) c_13)⟩)), trivial⟩, hS.F ht9⟩) hS.2.2 dJ0_indexOf_0f7a4_6 hlocks
  · obtain ⟨rfl, hw⟩ := hw
    obtain ⟨c_14, c_15, c_16, c_17⟩ := hw
    refine W.widen (k := 0) (n := 0) (Nat.le_of_ble_eq_true rfl) (Nat.le_of_ble_eq_true rfl) ?_
    exact W.iret (v := 1) hx hb hr (fun t ht9 hW9 => ⟨⟨1, (), rfl, (Or.inr (Or.inr (Or.inl ⟨rfl, (ix_eq (n := 112) c_14 c_15 (by decide) c_17)⟩))), trivial⟩, hS.F ht9⟩) hS.2.2 dJ0_indexOf_0f7a4_6 hlocks
  · obtain ⟨rfl, hw⟩ := hw
    obtain ⟨c_18, c_19, c_20⟩ := hw
    refine W.widen (k := 0) (n := 0) (Nat.le_of_ble_eq_true rfl) (Nat.le_of_ble_eq_true rfl) ?_
    exact W.iret (v := 0) hx hb hr (fun t ht9 hW9 => ⟨⟨0, (), rfl, (Or.inr (Or.inr (Or.inr ⟨rfl, (ix_eq (n := 115) c_18 c_19 (by decide) c_20)⟩))), trivial⟩, hS.F ht9⟩) hS.2.2 dJ0_indexOf_0f7a4_6 hlocks
set_option maxHeartbeats 4000000 in
set_option maxRecDepth 100000 in
theorem k_Jx4a65c_isEmpty_aae02 (l : Launch) (D : va_G) (g : Nat → ClassId) (z0 sz : Nat) (a : Nat → Nat) (h0 : Nat) : Met l yJx4a65c_isEmpty_aae02 (.code yJx4a65c_isEmpty_aae02 cJx4a65c_isEmpty_aae02 1 (some .boolean) :: TG) (rmk 0 0 0 0) (va_Pc [.ref h0] (PP D g z0 sz [(h0, .inr (5, [.int 0, .ref (g 100), .int 0]))])) (va_Qi (fun (r : Int32) (u : Unit) => (r = 1) ∧ True) (fun (_ : Unit) (_ : State) => True) (va_A [] sz)) 0 0 (va_A [] sz) := by
  refine met0 (cc := cJx4a65c_isEmpty_aae02) (n := 1) (by decide) (Nat.le_of_ble_eq_true rfl) ?_
  intro p e s m args below meth c hx hb hr hml hown ht hlocks hnm hP0 hD0 hK hZ hsz hz ls hl
  subst hsz
  have hA : ∀ q : Nat, s.heap.size ≤ q → va_A [] s.heap.size q := Anw
  have hAz : ∀ q, va_A [] s.heap.size q → z0 ≤ q := A0z hz
  have hS : va_S (va_A [] s.heap.size) s.heap s.heap [] := va_S.rf
  have hl : lv_has ls 1 [(0, .ref h0)] := hl
  refine lv_aload_n hx hb dJx4a65c_isEmpty_aae02_0 rfl (lv_at hl 0 rfl) ?_
  refine va_get (D := D) (ci := 5) (v := .int 0) (C := RJx4a65c) (T := TJx4a65c) (N := 3) hx hb ht in_Jx4a65c hown hK.1 (ro0 hP0 hS) 0 rfl rfl 2 (by decide) (ht _ w_355) (fun _ h9 => h9) rfl dJx4a65c_isEmpty_aae02_1 ?_
  refine lv_if_ne (tgt := 11) hx hb dJx4a65c_isEmpty_aae02_4 (by decide) (fun c_1 => ?_) (fun c_1 => ?_)
  · exact absurd c_1 (by decide)
  · refine lv_iconst (v := 1) hx hb dJx4a65c_isEmpty_aae02_7 (by decide) ?_
    refine lv_goto (tgt := 12) hx hb dJx4a65c_isEmpty_aae02_8 (by decide) ?_
    refine W.widen (k := 0) (n := 0) (Nat.le_of_ble_eq_true rfl) (Nat.le_of_ble_eq_true rfl) ?_
    exact W.zret (v := 1) hx hb hr rfl (fun t ht9 hW9 => ⟨⟨1, (), rfl, ⟨rfl, trivial⟩, trivial⟩, hS.F ht9⟩) hS.2.2 dJx4a65c_isEmpty_aae02_12 hlocks
set_option maxHeartbeats 4000000 in
set_option maxRecDepth 100000 in
theorem k_X15_coverage (l : Launch) (D : va_G) (g : Nat → ClassId) (z0 sz : Nat) (a : Nat → Nat) (p0 : Int32) (hc_p0 : isC p0) : Met l yX15_coverage (.code yX15_coverage cX15_coverage 6 (some .float) :: TG) (rmk 5 2 3 95) (va_Pc [.ref (a 200), .int p0] (PP D g z0 sz [((a 200), f_m a g), ((a 201), .inr (5, [.int 0, .ref (g 100), .int 0]))])) (va_Qf (fun (r : UInt32) (u : Int32) => ((u = 1) ∧ (((¬ p0 = 115) ∧ (¬ p0 = 112) ∧ (¬ p0 = 100)) ∨ ((¬ p0 = 115) ∧ (¬ p0 = 112) ∧ (¬ p0 = 100)) ∨ ((¬ p0 = 115) ∧ (¬ p0 = 112) ∧ (¬ p0 = 100)))) ∨ ((u = 2) ∧ ((p0 = 100) ∨ (p0 = 112) ∨ (p0 = 115)))) (fun (u : Int32) (t : State) => va_P D vwCl [((a 200), .inr (21, [.int u, .ref (a 201), .ref (a 202), .ref (a 203), .ref (a 204), .ref (a 205), .ref (a 206), .int 0, .int 0, .int 0, .int 0, .ref (a 208), .ref (a 209), .ref (a 210), .ref (a 211), .ref (a 212), .int 4, .int 12, .int (-1), .int 0, .ref (g 200), .ref (a 213), .int 0, .int 97, .ref (a 214), .ref (a 215), .ref (a 207), .null, .int 0]))] t.heap ∧ va_D (va_A [((a 200), f_m a g), ((a 201), .inr (5, [.int 0, .ref (g 100), .int 0]))] sz) [((a 200), .inr (21, [.int u, .ref (a 201), .ref (a 202), .ref (a 203), .ref (a 204), .ref (a 205), .ref (a 206), .int 0, .int 0, .int 0, .int 0, .ref (a 208), .ref (a 209), .ref (a 210), .ref (a 211), .ref (a 212), .int 4, .int 12, .int (-1), .int 0, .ref (g 200), .ref (a 213), .int 0, .int 97, .ref (a 214), .ref (a 215), .ref (a 207), .null, .int 0]))]) (va_A [((a 200), f_m a g), ((a 201), .inr (5, [.int 0, .ref (g 100), .int 0]))] sz)) 2 3 (va_A [((a 200), f_m a g), ((a 201), .inr (5, [.int 0, .ref (g 100), .int 0]))] sz) := by
  refine met0 (cc := cX15_coverage) (n := 6) (by decide) (Nat.le_of_ble_eq_true rfl) ?_
  intro p e s m args below meth c hx hb hr hml hown ht hlocks hnm hP0 hD0 hK hZ hsz hz ls hl
  subst hsz
  have hA : ∀ q : Nat, s.heap.size ≤ q → va_A [((a 200), f_m a g), ((a 201), .inr (5, [.int 0, .ref (g 100), .int 0]))] s.heap.size q := Anw
  have hAz : ∀ q, va_A [((a 200), f_m a g), ((a 201), .inr (5, [.int 0, .ref (g 100), .int 0]))] s.heap.size q → z0 ≤ q := Awz hz hD0
  have hS : va_S (va_A [((a 200), f_m a g), ((a 201), .inr (5, [.int 0, .ref (g 100), .int 0]))] s.heap.size) s.heap s.heap [] := va_S.rf
  have hD : va_D (va_A [((a 200), f_m a g), ((a 201), .inr (5, [.int 0, .ref (g 100), .int 0]))] s.heap.size) [((a 200), f_m a g), ((a 201), .inr (5, [.int 0, .ref (g 100), .int 0]))] := hD0.self
  have hP : va_P D vwCl [((a 200), f_m a g), ((a 201), .inr (5, [.int 0, .ref (g 100), .int 0]))] s.heap := hP0
  have hl : lv_has ls 6 [(0, .ref (a 200)), (1, .int p0)] := hl
  refine lv_aload_n hx hb dX15_coverage_0 rfl (lv_at hl 0 rfl) ?_
  have hPc : va_P D vwCl [((a 200), f_m a g), ((a 201), .inr (5, [.int 0, .ref (g 100), .int 0]))] _ := hP.sub (ws' := [((a 200), f_m a g), ((a 201), .inr (5, [.int 0, .ref (g 100), .int 0]))]) [0, 1] rfl
  have hDc : va_D (fun q => z0 ≤ q) [((a 200), f_m a g), ((a 201), .inr (5, [.int 0, .ref (g 100), .int 0]))] := (hD.to hAz).pick (ws' := [((a 200), f_m a g), ((a 201), .inr (5, [.int 0, .ref (g 100), .int 0]))]) [0, 1] (by decide) rfl
  have hFc := va_free (wc := [((a 200), f_m a g), ((a 201), .inr (5, [.int 0, .ref (g 100), .int 0]))]) hD hS hA [0, 1] rfl
  refine va_callr (va_runV (As := []) (rest := []) ⟨hx, hb, hml, hown, ht⟩ (k_X15_allClasses l D g z0 _ a) (cwV 0 ht (gV w_364 w_366 w_367 w_334 w_365) rfl rfl rfl (by decide +kernel) (le2 rfl rfl)) ⟨PP.blind, va_recv hK.1 hP (ci := 21) (q0 := 0) rfl rfl, PP.mk' hK hZ hz hAz hS hPc hDc⟩ rfl rfl hl.1 rfl (lv_room (Nat.le_of_ble_eq_true rfl)) dX15_coverage_1 (le2 rfl rfl)) hS (fun q _ h => hFc q h) hFc (fun u ra t H locs ht1 hvm hw hB hz1 hk1 hS => ?_)
  obtain ⟨q_1, hr9, hP1, hD1⟩ := hB
  rw [ht1] at hP1
  obtain ⟨hP, hD⟩ := va_join (wr := []) (w1 := [(q_1, .inr (5, [.int 0, .ref (g 100), .int 0])), ((a 200), f_m a g), ((a 201), .inr (5, [.int 0, .ref (g 100), .int 0]))]) hP hD [0, 1] [] rfl rfl (by decide) (by decide) hk1 hFc hP1 hD1
  subst hr9
  have hP : va_P D vwCl [(q_1, .inr (5, [.int 0, .ref (g 100), .int 0])), ((a 200), f_m a g), ((a 201), .inr (5, [.int 0, .ref (g 100), .int 0]))] H := hP
  have hD : va_D (va_A [((a 200), f_m a g), ((a 201), .inr (5, [.int 0, .ref (g 100), .int 0]))] s.heap.size) [(q_1, .inr (5, [.int 0, .ref (g 100), .int 0])), ((a 200), f_m a g), ((a 201), .inr (5, [.int 0, .ref (g 100), .int 0]))] := hD
  refine lv_astore_n (lv' := [(2, .ref q_1), (0, .ref (a 200)), (1, .int p0)]) hx hb dX15_coverage_4 rfl hl (by decide) rfl (fun ls hl => ?_)
  refine lv_aload_n hx hb dX15_coverage_5 rfl (lv_at hl 1 rfl) ?_
  refine r_ldcSw (index := 339) (tx := "spd") (q := g 203) hx hb hown (hK.2.2.2.2.2.2.1 3 (by decide)) dX15_coverage_6 ?_
  refine lv_iload_n hx hb dX15_coverage_9 rfl (lv_at hl 2 rfl) ?_
  have hPc : va_P D vwCl [] _ := hP.sub (ws' := []) [] rfl
  have hDc : va_D (fun q => z0 ≤ q) [] := (hD.to hAz).pick (ws' := []) [] (by decide) rfl
  have hFc := AnA (ws := [((a 200), f_m a g), ((a 201), .inr (5, [.int 0, .ref (g 100), .int 0]))]) hS.1
  refine va_calli (va_runV (As := [.int p0]) (rest := [.ref (a 200)]) ⟨hx, hb, hml, hown, ht⟩ (k_J0_indexOf_0f7a4_v1 l D g z0 _ a p0) (cwV 1 ht (gV w_425 w_427 w_428 w_394 w_426) rfl rfl rfl (by decide +kernel) (le2 rfl rfl)) ⟨PP.blind, vk_recv (i := 3) (hZ.m hAz).2.2.1 (by decide) hS, PP.mk' hK hZ hz hAz hS hPc hDc⟩ rfl rfl hl.1 rfl (lv_room (Nat.le_of_ble_eq_true rfl)) dX15_coverage_10 (le2 rfl rfl)) hS (fun q _ h => hFc q h) hFc (fun r u t H locs ht1 hvm hw hB hz1 hk1 hS => ?_)
  rcases hw with hw | hw | hw | hw
  · obtain ⟨rfl, hw⟩ := hw
    rcases hw with hw | hw | hw
    · obtain ⟨c_2, c_3, c_4⟩ := hw
      have hP := ro1 hP hk1
      refine lv_if_ge (tgt := 20) hx hb dX15_coverage_13 (by decide) (fun c_5 => ?_) (fun c_5 => ?_)
      · exact absurd c_5 (by decide)
      · refine lv_iconst (v := 1) hx hb dX15_coverage_16 (by decide) ?_
        refine lv_goto (tgt := 34) hx hb dX15_coverage_17 (by decide) ?_
        have hPc : va_P D vwCl [((a 200), f_m a g)] _ := hP.sub (ws' := [((a 200), f_m a g)]) [1] rfl
        have hDc : va_D (fun q => z0 ≤ q) [((a 200), f_m a g)] := (hD.to hAz).pick (ws' := [((a 200), f_m a g)]) [1] (by decide) rfl
        have hFc := va_free (wc := [((a 200), f_m a g)]) hD hS hA [1] rfl
        refine va_calli (va_runV (As := [.int 1]) (rest := []) ⟨hx, hb, hml, hown, ht⟩ (k_X15_isWrong l D g z0 _ a) (cwV 1 ht (gV w_376 w_378 w_379 w_334 w_377) rfl rfl rfl (by decide +kernel) (le2 rfl rfl)) ⟨PP.blind, va_recv hK.1 hP (ci := 21) (q0 := 1) rfl rfl, PP.mk' hK hZ hz hAz hS hPc hDc⟩ rfl rfl hl.1 rfl (lv_room (Nat.le_of_ble_eq_true rfl)) dX15_coverage_34 (le2 rfl rfl)) hS (fun q _ h => hFc q h) hFc (fun r u t H locs ht1 hvm hw hB hz1 hk1 hS => ?_)
        obtain ⟨rfl, hw⟩ := hw
        obtain ⟨hP1, hD1⟩ := hB
        rw [ht1] at hP1
        obtain ⟨hP, hD⟩ := va_join (wr := [(q_1, .inr (5, [.int 0, .ref (g 100), .int 0])), ((a 201), .inr (5, [.int 0, .ref (g 100), .int 0]))]) (w1 := [((a 200), .inr (21, [.int 1, .ref (a 201), .ref (a 202), .ref (a 203), .ref (a 204), .ref (a 205), .ref (a 206), .int 0, .int 0, .int 0, .int 0, .ref (a 208), .ref (a 209), .ref (a 210), .ref (a 211), .ref (a 212), .int 4, .int 12, .int (-1), .int 0, .ref (g 200), .ref (a 213), .int 0, .int 97, .ref (a 214), .ref (a 215), .ref (a 207), .null, .int 0]))]) hP hD [1] [0, 2] rfl rfl (by decide) (by decide) hk1 hFc hP1 hD1
        have hP : va_P D vwCl [(q_1, .inr (5, [.int 0, .ref (g 100), .int 0])), ((a 201), .inr (5, [.int 0, .ref (g 100), .int 0])), ((a 200), .inr (21, [.int 1, .ref (a 201), .ref (a 202), .ref (a 203), .ref (a 204), .ref (a 205), .ref (a 206), .int 0, .int 0, .int 0, .int 0, .ref (a 208), .ref (a 209), .ref (a 210), .ref (a 211), .ref (a 212), .int 4, .int 12, .int (-1), .int 0, .ref (g 200), .ref (a 213), .int 0, .int 97, .ref (a 214), .ref (a 215), .ref (a 207), .null, .int 0]))] H := hP
        have hD : va_D (va_A [((a 200), f_m a g), ((a 201), .inr (5, [.int 0, .ref (g 100), .int 0]))] s.heap.size) [(q_1, .inr (5, [.int 0, .ref (g 100), .int 0])), ((a 201), .inr (5, [.int 0, .ref (g 100), .int 0])), ((a 200), .inr (21, [.int 1, .ref (a 201), .ref (a 202), .ref (a 203), .ref (a 204), .ref (a 205), .ref (a 206), .int 0, .int 0, .int 0, .int 0, .ref (a 208), .ref (a 209), .ref (a 210), .ref (a 211), .ref (a 212), .int 4, .int 12, .int (-1), .int 0, .ref (g 200), .ref (a 213), .int 0, .int 97, .ref (a 214), .ref (a 215), .ref (a 207), .null, .int 0]))] := hD
        refine lv_if_eq (tgt := 42) hx hb dX15_coverage_37 (by decide) (fun c_6 => ?_) (fun c_6 => ?_)
        · exact absurd c_6 (by decide)
        · refine lv_fconst0 hx hb dX15_coverage_40 ?_
          have hP9 := hP.sub (ws' := [((a 200), .inr (21, [.int 1, .ref (a 201), .ref (a 202), .ref (a 203), .ref (a 204), .ref (a 205), .ref (a 206), .int 0, .int 0, .int 0, .int 0, .ref (a 208), .ref (a 209), .ref (a 210), .ref (a 211), .ref (a 212), .int 4, .int 12, .int (-1), .int 0, .ref (g 200), .ref (a 213), .int 0, .int 97, .ref (a 214), .ref (a 215), .ref (a 207), .null, .int 0]))]) [2] rfl
          have hD9 := hD.sub (ws' := [((a 200), .inr (21, [.int 1, .ref (a 201), .ref (a 202), .ref (a 203), .ref (a 204), .ref (a 205), .ref (a 206), .int 0, .int 0, .int 0, .int 0, .ref (a 208), .ref (a 209), .ref (a 210), .ref (a 211), .ref (a 212), .int 4, .int 12, .int (-1), .int 0, .ref (g 200), .ref (a 213), .int 0, .int 97, .ref (a 214), .ref (a 215), .ref (a 207), .null, .int 0]))]) [2] (by decide) rfl
          refine W.widen (k := 2) (n := 3) (Nat.le_of_ble_eq_true rfl) (Nat.le_of_ble_eq_true rfl) ?_
          exact W.fret hx hb hr (fun t ht9 hW9 => ⟨⟨_, 1, rfl, (Or.inl ⟨rfl, (Or.inl ⟨c_2, c_3, c_4⟩)⟩), ⟨(by rw [ht9]; exact hP9), hD9⟩⟩, hS.F ht9⟩) hS.2.2 dX15_coverage_41 hlocks
    · obtain ⟨c_7, c_8, c_9⟩ := hw
      have hP := ro1 hP hk1
      refine lv_if_ge (tgt := 20) hx hb dX15_coverage_13 (by decide) (fun c_10 => ?_) (fun c_10 => ?_)
      · exact absurd c_10 (by decide)
      · refine lv_iconst (v := 1) hx hb dX15_coverage_16 (by decide) ?_
        refine lv_goto (tgt := 34) hx hb dX15_coverage_17 (by decide) ?_
        have hPc : va_P D vwCl [((a 200), f_m a g)] _ := hP.sub (ws' := [((a 200), f_m a g)]) [1] rfl
        have hDc : va_D (fun q => z0 ≤ q) [((a 200), f_m a g)] := (hD.to hAz).pick (ws' := [((a 200), f_m a g)]) [1] (by decide) rfl
        have hFc := va_free (wc := [((a 200), f_m a g)]) hD hS hA [1] rfl
        refine va_calli (va_runV (As := [.int 1]) (rest := []) ⟨hx, hb, hml, hown, ht⟩ (k_X15_isWrong l D g z0 _ a) (cwV 1 ht (gV w_376 w_378 w_379 w_334 w_377) rfl rfl rfl (by decide +kernel) (le2 rfl rfl)) ⟨PP.blind, va_recv hK.1 hP (ci := 21) (q0 := 1) rfl rfl, PP.mk' hK hZ hz hAz hS hPc hDc⟩ rfl rfl hl.1 rfl (lv_room (Nat.le_of_ble_eq_true rfl)) dX15_coverage_34 (le2 rfl rfl)) hS (fun q _ h => hFc q h) hFc (fun r u t H locs ht1 hvm hw hB hz1 hk1 hS => ?_)
        obtain ⟨rfl, hw⟩ := hw
        obtain ⟨hP1, hD1⟩ := hB
        rw [ht1] at hP1
        obtain ⟨hP, hD⟩ := va_join (wr := [(q_1, .inr (5, [.int 0, .ref (g 100), .int 0])), ((a 201), .inr (5, [.int 0, .ref (g 100), .int 0]))]) (w1 := [((a 200), .inr (21, [.int 1, .ref (a 201), .ref (a 202), .ref (a 203), .ref (a 204), .ref (a 205), .ref (a 206), .int 0, .int 0, .int 0, .int 0, .ref (a 208), .ref (a 209), .ref (a 210), .ref (a 211), .ref (a 212), .int 4, .int 12, .int (-1), .int 0, .ref (g 200), .ref (a 213), .int 0, .int 97, .ref (a 214), .ref (a 215), .ref (a 207), .null, .int 0]))]) hP hD [1] [0, 2] rfl rfl (by decide) (by decide) hk1 hFc hP1 hD1
        have hP : va_P D vwCl [(q_1, .inr (5, [.int 0, .ref (g 100), .int 0])), ((a 201), .inr (5, [.int 0, .ref (g 100), .int 0])), ((a 200), .inr (21, [.int 1, .ref (a 201), .ref (a 202), .ref (a 203), .ref (a 204), .ref (a 205), .ref (a 206), .int 0, .int 0, .int 0, .int 0, .ref (a 208), .ref (a 209), .ref (a 210), .ref (a 211), .ref (a 212), .int 4, .int 12, .int (-1), .int 0, .ref (g 200), .ref (a 213), .int 0, .int 97, .ref (a 214), .ref (a 215), .ref (a 207), .null, .int 0]))] H := hP
        have hD : va_D (va_A [((a 200), f_m a g), ((a 201), .inr (5, [.int 0, .ref (g 100), .int 0]))] s.heap.size) [(q_1, .inr (5, [.int 0, .ref (g 100), .int 0])), ((a 201), .inr (5, [.int 0, .ref (g 100), .int 0])), ((a 200), .inr (21, [.int 1, .ref (a 201), .ref (a 202), .ref (a 203), .ref (a 204), .ref (a 205), .ref (a 206), .int 0, .int 0, .int 0, .int 0, .ref (a 208), .ref (a 209), .ref (a 210), .ref (a 211), .ref (a 212), .int 4, .int 12, .int (-1), .int 0, .ref (g 200), .ref (a 213), .int 0, .int 97, .ref (a 214), .ref (a 215), .ref (a 207), .null, .int 0]))] := hD
        refine lv_if_eq (tgt := 42) hx hb dX15_coverage_37 (by decide) (fun c_11 => ?_) (fun c_11 => ?_)
        · exact absurd c_11 (by decide)
        · refine lv_fconst0 hx hb dX15_coverage_40 ?_
          have hP9 := hP.sub (ws' := [((a 200), .inr (21, [.int 1, .ref (a 201), .ref (a 202), .ref (a 203), .ref (a 204), .ref (a 205), .ref (a 206), .int 0, .int 0, .int 0, .int 0, .ref (a 208), .ref (a 209), .ref (a 210), .ref (a 211), .ref (a 212), .int 4, .int 12, .int (-1), .int 0, .ref (g 200), .ref (a 213), .int 0, .int 97, .ref (a 214), .ref (a 215), .ref (a 207), .null, .int 0]))]) [2] rfl
          have hD9 := hD.sub (ws' := [((a 200), .inr (21, [.int 1, .ref (a 201), .ref (a 202), .ref (a 203), .ref (a 204), .ref (a 205), .ref (a 206), .int 0, .int 0, .int 0, .int 0, .ref (a 208), .ref (a 209), .ref (a 210), .ref (a 211), .ref (a 212), .int 4, .int 12, .int (-1), .int 0, .ref (g 200), .ref (a 213), .int 0, .int 97, .ref (a 214), .ref (a 215), .ref (a 207), .null, .int 0]))]) [2] (by decide) rfl
          refine W.widen (k := 2) (n := 3) (Nat.le_of_ble_eq_true rfl) (Nat.le_of_ble_eq_true rfl) ?_
          exact W.fret hx hb hr (fun t ht9 hW9 => ⟨⟨_, 1, rfl, (Or.inl ⟨rfl, (Or.inl ⟨c_7, c_8, c_9⟩)⟩), ⟨(by rw [ht9]; exact hP9), hD9⟩⟩, hS.F ht9⟩) hS.2.2 dX15_coverage_41 hlocks
    · obtain ⟨c_12, c_13, c_14⟩ := hw
      have hP := ro1 hP hk1
      refine lv_if_ge (tgt := 20) hx hb dX15_coverage_13 (by decide) (fun c_15 => ?_) (fun c_15 => ?_)
      · exact absurd c_15 (by decide)
      · refine lv_iconst (v := 1) hx hb dX15_coverage_16 (by decide) ?_
        refine lv_goto (tgt := 34) hx hb dX15_coverage_17 (by decide) ?_
        have hPc : va_P D vwCl [((a 200), f_m a g)] _ := hP.sub (ws' := [((a 200), f_m a g)]) [1] rfl
        have hDc : va_D (fun q => z0 ≤ q) [((a 200), f_m a g)] := (hD.to hAz).pick (ws' := [((a 200), f_m a g)]) [1] (by decide) rfl
        have hFc := va_free (wc := [((a 200), f_m a g)]) hD hS hA [1] rfl
        refine va_calli (va_runV (As := [.int 1]) (rest := []) ⟨hx, hb, hml, hown, ht⟩ (k_X15_isWrong l D g z0 _ a) (cwV 1 ht (gV w_376 w_378 w_379 w_334 w_377) rfl rfl rfl (by decide +kernel) (le2 rfl rfl)) ⟨PP.blind, va_recv hK.1 hP (ci := 21) (q0 := 1) rfl rfl, PP.mk' hK hZ hz hAz hS hPc hDc⟩ rfl rfl hl.1 rfl (lv_room (Nat.le_of_ble_eq_true rfl)) dX15_coverage_34 (le2 rfl rfl)) hS (fun q _ h => hFc q h) hFc (fun r u t H locs ht1 hvm hw hB hz1 hk1 hS => ?_)
        obtain ⟨rfl, hw⟩ := hw
        obtain ⟨hP1, hD1⟩ := hB
        rw [ht1] at hP1
        obtain ⟨hP, hD⟩ := va_join (wr := [(q_1, .inr (5, [.int 0, .ref (g 100), .int 0])), ((a 201), .inr (5, [.int 0, .ref (g 100), .int 0]))]) (w1 := [((a 200), .inr (21, [.int 1, .ref (a 201), .ref (a 202), .ref (a 203), .ref (a 204), .ref (a 205), .ref (a 206), .int 0, .int 0, .int 0, .int 0, .ref (a 208), .ref (a 209), .ref (a 210), .ref (a 211), .ref (a 212), .int 4, .int 12, .int (-1), .int 0, .ref (g 200), .ref (a 213), .int 0, .int 97, .ref (a 214), .ref (a 215), .ref (a 207), .null, .int 0]))]) hP hD [1] [0, 2] rfl rfl (by decide) (by decide) hk1 hFc hP1 hD1
        have hP : va_P D vwCl [(q_1, .inr (5, [.int 0, .ref (g 100), .int 0])), ((a 201), .inr (5, [.int 0, .ref (g 100), .int 0])), ((a 200), .inr (21, [.int 1, .ref (a 201), .ref (a 202), .ref (a 203), .ref (a 204), .ref (a 205), .ref (a 206), .int 0, .int 0, .int 0, .int 0, .ref (a 208), .ref (a 209), .ref (a 210), .ref (a 211), .ref (a 212), .int 4, .int 12, .int (-1), .int 0, .ref (g 200), .ref (a 213), .int 0, .int 97, .ref (a 214), .ref (a 215), .ref (a 207), .null, .int 0]))] H := hP
        have hD : va_D (va_A [((a 200), f_m a g), ((a 201), .inr (5, [.int 0, .ref (g 100), .int 0]))] s.heap.size) [(q_1, .inr (5, [.int 0, .ref (g 100), .int 0])), ((a 201), .inr (5, [.int 0, .ref (g 100), .int 0])), ((a 200), .inr (21, [.int 1, .ref (a 201), .ref (a 202), .ref (a 203), .ref (a 204), .ref (a 205), .ref (a 206), .int 0, .int 0, .int 0, .int 0, .ref (a 208), .ref (a 209), .ref (a 210), .ref (a 211), .ref (a 212), .int 4, .int 12, .int (-1), .int 0, .ref (g 200), .ref (a 213), .int 0, .int 97, .ref (a 214), .ref (a 215), .ref (a 207), .null, .int 0]))] := hD
        refine lv_if_eq (tgt := 42) hx hb dX15_coverage_37 (by decide) (fun c_16 => ?_) (fun c_16 => ?_)
        · exact absurd c_16 (by decide)
        · refine lv_fconst0 hx hb dX15_coverage_40 ?_
          have hP9 := hP.sub (ws' := [((a 200), .inr (21, [.int 1, .ref (a 201), .ref (a 202), .ref (a 203), .ref (a 204), .ref (a 205), .ref (a 206), .int 0, .int 0, .int 0, .int 0, .ref (a 208), .ref (a 209), .ref (a 210), .ref (a 211), .ref (a 212), .int 4, .int 12, .int (-1), .int 0, .ref (g 200), .ref (a 213), .int 0, .int 97, .ref (a 214), .ref (a 215), .ref (a 207), .null, .int 0]))]) [2] rfl
          have hD9 := hD.sub (ws' := [((a 200), .inr (21, [.int 1, .ref (a 201), .ref (a 202), .ref (a 203), .ref (a 204), .ref (a 205), .ref (a 206), .int 0, .int 0, .int 0, .int 0, .ref (a 208), .ref (a 209), .ref (a 210), .ref (a 211), .ref (a 212), .int 4, .int 12, .int (-1), .int 0, .ref (g 200), .ref (a 213), .int 0, .int 97, .ref (a 214), .ref (a 215), .ref (a 207), .null, .int 0]))]) [2] (by decide) rfl
          refine W.widen (k := 2) (n := 3) (Nat.le_of_ble_eq_true rfl) (Nat.le_of_ble_eq_true rfl) ?_
          exact W.fret hx hb hr (fun t ht9 hW9 => ⟨⟨_, 1, rfl, (Or.inl ⟨rfl, (Or.inl ⟨c_12, c_13, c_14⟩)⟩), ⟨(by rw [ht9]; exact hP9), hD9⟩⟩, hS.F ht9⟩) hS.2.2 dX15_coverage_41 hlocks
  · obtain ⟨rfl, hw⟩ := hw
    have c_17 := hw
    have hP := ro1 hP hk1
    refine lv_if_ge (tgt := 20) hx hb dX15_coverage_13 (by decide) (fun c_18 => ?_) (fun c_18 => ?_)
    · refine lv_aload_n hx hb dX15_coverage_20 rfl (lv_at hl 0 rfl) ?_
      have hPc : va_P D vwCl [(q_1, .inr (5, [.int 0, .ref (g 100), .int 0]))] _ := hP.sub (ws' := [(q_1, .inr (5, [.int 0, .ref (g 100), .int 0]))]) [0] rfl
      have hDc : va_D (fun q => z0 ≤ q) [(q_1, .inr (5, [.int 0, .ref (g 100), .int 0]))] := (hD.to hAz).pick (ws' := [(q_1, .inr (5, [.int 0, .ref (g 100), .int 0]))]) [0] (by decide) rfl
      have hFc := AnA (ws := [((a 200), f_m a g), ((a 201), .inr (5, [.int 0, .ref (g 100), .int 0]))]) hS.1
      refine va_callFi (va_runF (As := []) (rest := [.ref (a 200)]) (hK.1.1 5 _ rfl).2 ⟨hx, hb, hml, hown, ht⟩ (k_Jx4a65c_isEmpty_aae02 l D g z0 _ a q_1) (va_cwF 0 ht (gF w_487 w_489 w_490 w_323 w_488) rfl rfl rfl (hK.2.2.2.1 _ (List.mem_of_getElem? (i := 6) rfl)) (by decide +kernel) (le2 rfl rfl)) ⟨PP.blind, va_recv hK.1 hP (ci := 5) (q0 := 0) rfl rfl, PP.mk' hK hZ hz hAz hS hPc hDc⟩ rfl rfl hl.1 rfl (lv_room (Nat.le_of_ble_eq_true rfl)) dX15_coverage_21 (le2 rfl rfl)) hS (fun q _ h => hFc q h) hFc (fun r u t H locs ht1 hvm hw hB hz1 hk1 hS => ?_)
      obtain ⟨rfl, hw⟩ := hw
      have hP := ro1 hP hk1
      refine lv_if_eq (tgt := 33) hx hb dX15_coverage_26 (by decide) (fun c_19 => ?_) (fun c_19 => ?_)
      · exact absurd c_19 (by decide)
      · refine lv_iconst (v := 2) hx hb dX15_coverage_29 (by decide) ?_
        refine lv_goto (tgt := 34) hx hb dX15_coverage_30 (by decide) ?_
        have hPc : va_P D vwCl [((a 200), f_m a g)] _ := hP.sub (ws' := [((a 200), f_m a g)]) [1] rfl
        have hDc : va_D (fun q => z0 ≤ q) [((a 200), f_m a g)] := (hD.to hAz).pick (ws' := [((a 200), f_m a g)]) [1] (by decide) rfl
        have hFc := va_free (wc := [((a 200), f_m a g)]) hD hS hA [1] rfl
        refine va_calli (va_runV (As := [.int 2]) (rest := []) ⟨hx, hb, hml, hown, ht⟩ (k_X15_isWrong_v2 l D g z0 _ a) (cwV 1 ht (gV w_376 w_378 w_379 w_334 w_377) rfl rfl rfl (by decide +kernel) (le2 rfl rfl)) ⟨PP.blind, va_recv hK.1 hP (ci := 21) (q0 := 1) rfl rfl, PP.mk' hK hZ hz hAz hS hPc hDc⟩ rfl rfl hl.1 rfl (lv_room (Nat.le_of_ble_eq_true rfl)) dX15_coverage_34 (le2 rfl rfl)) hS (fun q _ h => hFc q h) hFc (fun r u t H locs ht1 hvm hw hB hz1 hk1 hS => ?_)
        obtain ⟨rfl, hw⟩ := hw
        obtain ⟨hP1, hD1⟩ := hB
        rw [ht1] at hP1
        obtain ⟨hP, hD⟩ := va_join (wr := [(q_1, .inr (5, [.int 0, .ref (g 100), .int 0])), ((a 201), .inr (5, [.int 0, .ref (g 100), .int 0]))]) (w1 := [((a 200), .inr (21, [.int 2, .ref (a 201), .ref (a 202), .ref (a 203), .ref (a 204), .ref (a 205), .ref (a 206), .int 0, .int 0, .int 0, .int 0, .ref (a 208), .ref (a 209), .ref (a 210), .ref (a 211), .ref (a 212), .int 4, .int 12, .int (-1), .int 0, .ref (g 200), .ref (a 213), .int 0, .int 97, .ref (a 214), .ref (a 215), .ref (a 207), .null, .int 0]))]) hP hD [1] [0, 2] rfl rfl (by decide) (by decide) hk1 hFc hP1 hD1
        have hP : va_P D vwCl [(q_1, .inr (5, [.int 0, .ref (g 100), .int 0])), ((a 201), .inr (5, [.int 0, .ref (g 100), .int 0])), ((a 200), .inr (21, [.int 2, .ref (a 201), .ref (a 202), .ref (a 203), .ref (a 204), .ref (a 205), .ref (a 206), .int 0, .int 0, .int 0, .int 0, .ref (a 208), .ref (a 209), .ref (a 210), .ref (a 211), .ref (a 212), .int 4, .int 12, .int (-1), .int 0, .ref (g 200), .ref (a 213), .int 0, .int 97, .ref (a 214), .ref (a 215), .ref (a 207), .null, .int 0]))] H := hP
        have hD : va_D (va_A [((a 200), f_m a g), ((a 201), .inr (5, [.int 0, .ref (g 100), .int 0]))] s.heap.size) [(q_1, .inr (5, [.int 0, .ref (g 100), .int 0])), ((a 201), .inr (5, [.int 0, .ref (g 100), .int 0])), ((a 200), .inr (21, [.int 2, .ref (a 201), .ref (a 202), .ref (a 203), .ref (a 204), .ref (a 205), .ref (a 206), .int 0, .int 0, .int 0, .int 0, .ref (a 208), .ref (a 209), .ref (a 210), .ref (a 211), .ref (a 212), .int 4, .int 12, .int (-1), .int 0, .ref (g 200), .ref (a 213), .int 0, .int 97, .ref (a 214), .ref (a 215), .ref (a 207), .null, .int 0]))] := hD
        refine lv_if_eq (tgt := 42) hx hb dX15_coverage_37 (by decide) (fun c_20 => ?_) (fun c_20 => ?_)
        · exact absurd c_20 (by decide)
        · refine lv_fconst0 hx hb dX15_coverage_40 ?_
          have hP9 := hP.sub (ws' := [((a 200), .inr (21, [.int 2, .ref (a 201), .ref (a 202), .ref (a 203), .ref (a 204), .ref (a 205), .ref (a 206), .int 0, .int 0, .int 0, .int 0, .ref (a 208), .ref (a 209), .ref (a 210), .ref (a 211), .ref (a 212), .int 4, .int 12, .int (-1), .int 0, .ref (g 200), .ref (a 213), .int 0, .int 97, .ref (a 214), .ref (a 215), .ref (a 207), .null, .int 0]))]) [2] rfl
          have hD9 := hD.sub (ws' := [((a 200), .inr (21, [.int 2, .ref (a 201), .ref (a 202), .ref (a 203), .ref (a 204), .ref (a 205), .ref (a 206), .int 0, .int 0, .int 0, .int 0, .ref (a 208), .ref (a 209), .ref (a 210), .ref (a 211), .ref (a 212), .int 4, .int 12, .int (-1), .int 0, .ref (g 200), .ref (a 213), .int 0, .int 97, .ref (a 214), .ref (a 215), .ref (a 207), .null, .int 0]))]) [2] (by decide) rfl
          refine W.widen (k := 2) (n := 3) (Nat.le_of_ble_eq_true rfl) (Nat.le_of_ble_eq_true rfl) ?_
          exact W.fret hx hb hr (fun t ht9 hW9 => ⟨⟨_, 2, rfl, (Or.inr ⟨rfl, (Or.inl c_17)⟩), ⟨(by rw [ht9]; exact hP9), hD9⟩⟩, hS.F ht9⟩) hS.2.2 dX15_coverage_41 hlocks
    · exact absurd c_18 (by decide)
  · obtain ⟨rfl, hw⟩ := hw
    have c_21 := hw
    have hP := ro1 hP hk1
    refine lv_if_ge (tgt := 20) hx hb dX15_coverage_13 (by decide) (fun c_22 => ?_) (fun c_22 => ?_)
    · refine lv_aload_n hx hb dX15_coverage_20 rfl (lv_at hl 0 rfl) ?_
      have hPc : va_P D vwCl [(q_1, .inr (5, [.int 0, .ref (g 100), .int 0]))] _ := hP.sub (ws' := [(q_1, .inr (5, [.int 0, .ref (g 100), .int 0]))]) [0] rfl
      have hDc : va_D (fun q => z0 ≤ q) [(q_1, .inr (5, [.int 0, .ref (g 100), .int 0]))] := (hD.to hAz).pick (ws' := [(q_1, .inr (5, [.int 0, .ref (g 100), .int 0]))]) [0] (by decide) rfl
      have hFc := AnA (ws := [((a 200), f_m a g), ((a 201), .inr (5, [.int 0, .ref (g 100), .int 0]))]) hS.1
      refine va_callFi (va_runF (As := []) (rest := [.ref (a 200)]) (hK.1.1 5 _ rfl).2 ⟨hx, hb, hml, hown, ht⟩ (k_Jx4a65c_isEmpty_aae02 l D g z0 _ a q_1) (va_cwF 0 ht (gF w_487 w_489 w_490 w_323 w_488) rfl rfl rfl (hK.2.2.2.1 _ (List.mem_of_getElem? (i := 6) rfl)) (by decide +kernel) (le2 rfl rfl)) ⟨PP.blind, va_recv hK.1 hP (ci := 5) (q0 := 0) rfl rfl, PP.mk' hK hZ hz hAz hS hPc hDc⟩ rfl rfl hl.1 rfl (lv_room (Nat.le_of_ble_eq_true rfl)) dX15_coverage_21 (le2 rfl rfl)) hS (fun q _ h => hFc q h) hFc (fun r u t H locs ht1 hvm hw hB hz1 hk1 hS => ?_)
      obtain ⟨rfl, hw⟩ := hw
      have hP := ro1 hP hk1
      refine lv_if_eq (tgt := 33) hx hb dX15_coverage_26 (by decide) (fun c_23 => ?_) (fun c_23 => ?_)
      · exact absurd c_23 (by decide)
      · refine lv_iconst (v := 2) hx hb dX15_coverage_29 (by decide) ?_
        refine lv_goto (tgt := 34) hx hb dX15_coverage_30 (by decide) ?_
        have hPc : va_P D vwCl [((a 200), f_m a g)] _ := hP.sub (ws' := [((a 200), f_m a g)]) [1] rfl
        have hDc : va_D (fun q => z0 ≤ q) [((a 200), f_m a g)] := (hD.to hAz).pick (ws' := [((a 200), f_m a g)]) [1] (by decide) rfl
        have hFc := va_free (wc := [((a 200), f_m a g)]) hD hS hA [1] rfl
        refine va_calli (va_runV (As := [.int 2]) (rest := []) ⟨hx, hb, hml, hown, ht⟩ (k_X15_isWrong_v2 l D g z0 _ a) (cwV 1 ht (gV w_376 w_378 w_379 w_334 w_377) rfl rfl rfl (by decide +kernel) (le2 rfl rfl)) ⟨PP.blind, va_recv hK.1 hP (ci := 21) (q0 := 1) rfl rfl, PP.mk' hK hZ hz hAz hS hPc hDc⟩ rfl rfl hl.1 rfl (lv_room (Nat.le_of_ble_eq_true rfl)) dX15_coverage_34 (le2 rfl rfl)) hS (fun q _ h => hFc q h) hFc (fun r u t H locs ht1 hvm hw hB hz1 hk1 hS => ?_)
        obtain ⟨rfl, hw⟩ := hw
        obtain ⟨hP1, hD1⟩ := hB
        rw [ht1] at hP1
        obtain ⟨hP, hD⟩ := va_join (wr := [(q_1, .inr (5, [.int 0, .ref (g 100), .int 0])), ((a 201), .inr (5, [.int 0, .ref (g 100), .int 0]))]) (w1 := [((a 200), .inr (21, [.int 2, .ref (a 201), .ref (a 202), .ref (a 203), .ref (a 204), .ref (a 205), .ref (a 206), .int 0, .int 0, .int 0, .int 0, .ref (a 208), .ref (a 209), .ref (a 210), .ref (a 211), .ref (a 212), .int 4, .int 12, .int (-1), .int 0, .ref (g 200), .ref (a 213), .int 0, .int 97, .ref (a 214), .ref (a 215), .ref (a 207), .null, .int 0]))]) hP hD [1] [0, 2] rfl rfl (by decide) (by decide) hk1 hFc hP1 hD1
        have hP : va_P D vwCl [(q_1, .inr (5, [.int 0, .ref (g 100), .int 0])), ((a 201), .inr (5, [.int 0, .ref (g 100), .int 0])), ((a 200), .inr (21, [.int 2, .ref (a 201), .ref (a 202), .ref (a 203), .ref (a 204), .ref (a 205), .ref (a 206), .int 0, .int 0, .int 0, .int 0, .ref (a 208), .ref (a 209), .ref (a 210), .ref (a 211), .ref (a 212), .int 4, .int 12, .int (-1), .int 0, .ref (g 200), .ref (a 213), .int 0, .int 97, .ref (a 214), .ref (a 215), .ref (a 207), .null, .int 0]))] H := hP
        have hD : va_D (va_A [((a 200), f_m a g), ((a 201), .inr (5, [.int 0, .ref (g 100), .int 0]))] s.heap.size) [(q_1, .inr (5, [.int 0, .ref (g 100), .int 0])), ((a 201), .inr (5, [.int 0, .ref (g 100), .int 0])), ((a 200), .inr (21, [.int 2, .ref (a 201), .ref (a 202), .ref (a 203), .ref (a 204), .ref (a 205), .ref (a 206), .int 0, .int 0, .int 0, .int 0, .ref (a 208), .ref (a 209), .ref (a 210), .ref (a 211), .ref (a 212), .int 4, .int 12, .int (-1), .int 0, .ref (g 200), .ref (a 213), .int 0, .int 97, .ref (a 214), .ref (a 215), .ref (a 207), .null, .int 0]))] := hD
        refine lv_if_eq (tgt := 42) hx hb dX15_coverage_37 (by decide) (fun c_24 => ?_) (fun c_24 => ?_)
        · exact absurd c_24 (by decide)
        · refine lv_fconst0 hx hb dX15_coverage_40 ?_
          have hP9 := hP.sub (ws' := [((a 200), .inr (21, [.int 2, .ref (a 201), .ref (a 202), .ref (a 203), .ref (a 204), .ref (a 205), .ref (a 206), .int 0, .int 0, .int 0, .int 0, .ref (a 208), .ref (a 209), .ref (a 210), .ref (a 211), .ref (a 212), .int 4, .int 12, .int (-1), .int 0, .ref (g 200), .ref (a 213), .int 0, .int 97, .ref (a 214), .ref (a 215), .ref (a 207), .null, .int 0]))]) [2] rfl
          have hD9 := hD.sub (ws' := [((a 200), .inr (21, [.int 2, .ref (a 201), .ref (a 202), .ref (a 203), .ref (a 204), .ref (a 205), .ref (a 206), .int 0, .int 0, .int 0, .int 0, .ref (a 208), .ref (a 209), .ref (a 210), .ref (a 211), .ref (a 212), .int 4, .int 12, .int (-1), .int 0, .ref (g 200), .ref (a 213), .int 0, .int 97, .ref (a 214), .ref (a 215), .ref (a 207), .null, .int 0]))]) [2] (by decide) rfl
          refine W.widen (k := 2) (n := 3) (Nat.le_of_ble_eq_true rfl) (Nat.le_of_ble_eq_true rfl) ?_
          exact W.fret hx hb hr (fun t ht9 hW9 => ⟨⟨_, 2, rfl, (Or.inr ⟨rfl, (Or.inr (Or.inl c_21))⟩), ⟨(by rw [ht9]; exact hP9), hD9⟩⟩, hS.F ht9⟩) hS.2.2 dX15_coverage_41 hlocks
    · exact absurd c_22 (by decide)
  · obtain ⟨rfl, hw⟩ := hw
    have c_25 := hw
    have hP := ro1 hP hk1
    refine lv_if_ge (tgt := 20) hx hb dX15_coverage_13 (by decide) (fun c_26 => ?_) (fun c_26 => ?_)
    · refine lv_aload_n hx hb dX15_coverage_20 rfl (lv_at hl 0 rfl) ?_
      have hPc : va_P D vwCl [(q_1, .inr (5, [.int 0, .ref (g 100), .int 0]))] _ := hP.sub (ws' := [(q_1, .inr (5, [.int 0, .ref (g 100), .int 0]))]) [0] rfl
      have hDc : va_D (fun q => z0 ≤ q) [(q_1, .inr (5, [.int 0, .ref (g 100), .int 0]))] := (hD.to hAz).pick (ws' := [(q_1, .inr (5, [.int 0, .ref (g 100), .int 0]))]) [0] (by decide) rfl
      have hFc := AnA (ws := [((a 200), f_m a g), ((a 201), .inr (5, [.int 0, .ref (g 100), .int 0]))]) hS.1
      refine va_callFi (va_runF (As := []) (rest := [.ref (a 200)]) (hK.1.1 5 _ rfl).2 ⟨hx, hb, hml, hown, ht⟩ (k_Jx4a65c_isEmpty_aae02 l D g z0 _ a q_1) (va_cwF 0 ht (gF w_487 w_489 w_490 w_323 w_488) rfl rfl rfl (hK.2.2.2.1 _ (List.mem_of_getElem? (i := 6) rfl)) (by decide +kernel) (le2 rfl rfl)) ⟨PP.blind, va_recv hK.1 hP (ci := 5) (q0 := 0) rfl rfl, PP.mk' hK hZ hz hAz hS hPc hDc⟩ rfl rfl hl.1 rfl (lv_room (Nat.le_of_ble_eq_true rfl)) dX15_coverage_21 (le2 rfl rfl)) hS (fun q _ h => hFc q h) hFc (fun r u t H locs ht1 hvm hw hB hz1 hk1 hS => ?_)
      obtain ⟨rfl, hw⟩ := hw
      have hP := ro1 hP hk1
      refine lv_if_eq (tgt := 33) hx hb dX15_coverage_26 (by decide) (fun c_27 => ?_) (fun c_27 => ?_)
      · exact absurd c_27 (by decide)
      · refine lv_iconst (v := 2) hx hb dX15_coverage_29 (by decide) ?_
        refine lv_goto (tgt := 34) hx hb dX15_coverage_30 (by decide) ?_
        have hPc : va_P D vwCl [((a 200), f_m a g)] _ := hP.sub (ws' := [((a 200), f_m a g)]) [1] rfl
        have hDc : va_D (fun q => z0 ≤ q) [((a 200), f_m a g)] := (hD.to hAz).pick (ws' := [((a 200), f_m a g)]) [1] (by decide) rfl
        have hFc := va_free (wc := [((a 200), f_m a g)]) hD hS hA [1] rfl
        refine va_calli (va_runV (As := [.int 2]) (rest := []) ⟨hx, hb, hml, hown, ht⟩ (k_X15_isWrong_v2 l D g z0 _ a) (cwV 1 ht (gV w_376 w_378 w_379 w_334 w_377) rfl rfl rfl (by decide +kernel) (le2 rfl rfl)) ⟨PP.blind, va_recv hK.1 hP (ci := 21) (q0 := 1) rfl rfl, PP.mk' hK hZ hz hAz hS hPc hDc⟩ rfl rfl hl.1 rfl (lv_room (Nat.le_of_ble_eq_true rfl)) dX15_coverage_34 (le2 rfl rfl)) hS (fun q _ h => hFc q h) hFc (fun r u t H locs ht1 hvm hw hB hz1 hk1 hS => ?_)
        obtain ⟨rfl, hw⟩ := hw
        obtain ⟨hP1, hD1⟩ := hB
        rw [ht1] at hP1
        obtain ⟨hP, hD⟩ := va_join (wr := [(q_1, .inr (5, [.int 0, .ref (g 100), .int 0])), ((a 201), .inr (5, [.int 0, .ref (g 100), .int 0]))]) (w1 := [((a 200), .inr (21, [.int 2, .ref (a 201), .ref (a 202), .ref (a 203), .ref (a 204), .ref (a 205), .ref (a 206), .int 0, .int 0, .int 0, .int 0, .ref (a 208), .ref (a 209), .ref (a 210), .ref (a 211), .ref (a 212), .int 4, .int 12, .int (-1), .int 0, .ref (g 200), .ref (a 213), .int 0, .int 97, .ref (a 214), .ref (a 215), .ref (a 207), .null, .int 0]))]) hP hD [1] [0, 2] rfl rfl (by decide) (by decide) hk1 hFc hP1 hD1
        have hP : va_P D vwCl [(q_1, .inr (5, [.int 0, .ref (g 100), .int 0])), ((a 201), .inr (5, [.int 0, .ref (g 100), .int 0])), ((a 200), .inr (21, [.int 2, .ref (a 201), .ref (a 202), .ref (a 203), .ref (a 204), .ref (a 205), .ref (a 206), .int 0, .int 0, .int 0, .int 0, .ref (a 208), .ref (a 209), .ref (a 210), .ref (a 211), .ref (a 212), .int 4, .int 12, .int (-1), .int 0, .ref (g 200), .ref (a 213), .int 0, .int 97, .ref (a 214), .ref (a 215), .ref (a 207), .null, .int 0]))] H := hP
        have hD : va_D (va_A [((a 200), f_m a g), ((a 201), .inr (5, [.int 0, .ref (g 100), .int 0]))] s.heap.size) [(q_1, .inr (5, [.int 0, .ref (g 100), .int 0])), ((a 201), .inr (5, [.int 0, .ref (g 100), .int 0])), ((a 200), .inr (21, [.int 2, .ref (a 201), .ref (a 202), .ref (a 203), .ref (a 204), .ref (a 205), .ref (a 206), .int 0, .int 0, .int 0, .int 0, .ref (a 208), .ref (a 209), .ref (a 210), .ref (a 211), .ref (a 212), .int 4, .int 12, .int (-1), .int 0, .ref (g 200), .ref (a 213), .int 0, .int 97, .ref (a 214), .ref (a 215), .ref (a 207), .null, .int 0]))] := hD
        refine lv_if_eq (tgt := 42) hx hb dX15_coverage_37 (by decide) (fun c_28 => ?_) (fun c_28 => ?_)
        · exact absurd c_28 (by decide)
        · refine lv_fconst0 hx hb dX15_coverage_40 ?_
          have hP9 := hP.sub (ws' := [((a 200), .inr (21, [.int 2, .ref (a 201), .ref (a 202), .ref (a 203), .ref (a 204), .ref (a 205), .ref (a 206), .int 0, .int 0, .int 0, .int 0, .ref (a 208), .ref (a 209), .ref (a 210), .ref (a 211), .ref (a 212), .int 4, .int 12, .int (-1), .int 0, .ref (g 200), .ref (a 213), .int 0, .int 97, .ref (a 214), .ref (a 215), .ref (a 207), .null, .int 0]))]) [2] rfl
          have hD9 := hD.sub (ws' := [((a 200), .inr (21, [.int 2, .ref (a 201), .ref (a 202), .ref (a 203), .ref (a 204), .ref (a 205), .ref (a 206), .int 0, .int 0, .int 0, .int 0, .ref (a 208), .ref (a 209), .ref (a 210), .ref (a 211), .ref (a 212), .int 4, .int 12, .int (-1), .int 0, .ref (g 200), .ref (a 213), .int 0, .int 97, .ref (a 214), .ref (a 215), .ref (a 207), .null, .int 0]))]) [2] (by decide) rfl
          refine W.widen (k := 2) (n := 3) (Nat.le_of_ble_eq_true rfl) (Nat.le_of_ble_eq_true rfl) ?_
          exact W.fret hx hb hr (fun t ht9 hW9 => ⟨⟨_, 2, rfl, (Or.inr ⟨rfl, (Or.inr (Or.inr c_25))⟩), ⟨(by rw [ht9]; exact hP9), hD9⟩⟩, hS.F ht9⟩) hS.2.2 dX15_coverage_41 hlocks
    · exact absurd c_26 (by decide)
set_option maxHeartbeats 4000000 in
set_option maxRecDepth 100000 in
theorem k_X15_cycles (l : Launch) (D : va_G) (g : Nat → ClassId) (z0 sz : Nat) (a : Nat → Nat) : Met l yX15_cycles (.code yX15_cycles cX15_cycles 1 (some .int) :: TG) (rmk 1 0 0 20) (va_Pc [.ref (a 200)] (PP D g z0 sz [((a 200), f_m a g), ((a 203), .inr (5, [.int 0, .ref (g 100), .int 0])), ((a 206), .inr (5, [.int 0, .ref (g 100), .int 0]))])) (va_Qi (fun (r : Int32) (u : Unit) => (r = 0) ∧ True) (fun (u : Unit) (t : State) => va_P D vwCl [((a 200), .inr (21, [.int 0, .ref (a 201), .ref (a 202), .ref (a 203), .ref (a 204), .ref (a 205), .ref (a 206), .int 0, .int 0, .int 0, .int 0, .ref (a 208), .ref (a 209), .ref (a 210), .ref (a 211), .ref (a 212), .int 4, .int 12, .int (-1), .int 0, .ref (g 200), .ref (a 213), .int 0, .int 97, .ref (a 214), .ref (a 215), .ref (a 207), .null, .int 0]))] t.heap ∧ va_D (va_A [((a 200), f_m a g), ((a 203), .inr (5, [.int 0, .ref (g 100), .int 0])), ((a 206), .inr (5, [.int 0, .ref (g 100), .int 0]))] sz) [((a 200), .inr (21, [.int 0, .ref (a 201), .ref (a 202), .ref (a 203), .ref (a 204), .ref (a 205), .ref (a 206), .int 0, .int 0, .int 0, .int 0, .ref (a 208), .ref (a 209), .ref (a 210), .ref (a 211), .ref (a 212), .int 4, .int 12, .int (-1), .int 0, .ref (g 200), .ref (a 213), .int 0, .int 97, .ref (a 214), .ref (a 215), .ref (a 207), .null, .int 0]))]) (va_A [((a 200), f_m a g), ((a 203), .inr (5, [.int 0, .ref (g 100), .int 0])), ((a 206), .inr (5, [.int 0, .ref (g 100), .int 0]))] sz)) 0 0 (va_A [((a 200), f_m a g), ((a 203), .inr (5, [.int 0, .ref (g 100), .int 0])), ((a 206), .inr (5, [.int 0, .ref (g 100), .int 0]))] sz) := by
  refine met0 (cc := cX15_cycles) (n := 1) (by decide) (Nat.le_of_ble_eq_true rfl) ?_
  intro p e s m args below meth c hx hb hr hml hown ht hlocks hnm hP0 hD0 hK hZ hsz hz ls hl
  subst hsz
  have hA : ∀ q : Nat, s.heap.size ≤ q → va_A [((a 200), f_m a g), ((a 203), .inr (5, [.int 0, .ref (g 100), .int 0])), ((a 206), .inr (5, [.int 0, .ref (g 100), .int 0]))] s.heap.size q := Anw
  have hAz : ∀ q, va_A [((a 200), f_m a g), ((a 203), .inr (5, [.int 0, .ref (g 100), .int 0])), ((a 206), .inr (5, [.int 0, .ref (g 100), .int 0]))] s.heap.size q → z0 ≤ q := Awz hz hD0
  have hS : va_S (va_A [((a 200), f_m a g), ((a 203), .inr (5, [.int 0, .ref (g 100), .int 0])), ((a 206), .inr (5, [.int 0, .ref (g 100), .int 0]))] s.heap.size) s.heap s.heap [] := va_S.rf
  have hD : va_D (va_A [((a 200), f_m a g), ((a 203), .inr (5, [.int 0, .ref (g 100), .int 0])), ((a 206), .inr (5, [.int 0, .ref (g 100), .int 0]))] s.heap.size) [((a 200), f_m a g), ((a 203), .inr (5, [.int 0, .ref (g 100), .int 0])), ((a 206), .inr (5, [.int 0, .ref (g 100), .int 0]))] := hD0.self
  have hP : va_P D vwCl [((a 200), f_m a g), ((a 203), .inr (5, [.int 0, .ref (g 100), .int 0])), ((a 206), .inr (5, [.int 0, .ref (g 100), .int 0]))] s.heap := hP0
  have hl : lv_has ls 1 [(0, .ref (a 200))] := hl
  refine lv_aload_n hx hb dX15_cycles_0 rfl (lv_at hl 0 rfl) ?_
  refine lv_iconst (v := 0) hx hb dX15_cycles_1 (by decide) ?_
  refine va_put (D := D) (ci := 21) (v := .int 0) (ty := .int) (C := RX15) (T := TX15) (N := 29) hx hb ht in_X15 tyX15 tyX15_ok nmX15 hown hK.1 hP hD hS 0 rfl rfl 0 (by decide) (ht _ w_303) (fun _ h9 => h9) rfl (by decide +kernel) rfl rfl (Nat.le_of_ble_eq_true rfl) dX15_cycles_2 (fun H locs hP hD hS => ?_)
  have hP : va_P D vwCl [((a 200), .inr (21, [.int 0, .ref (a 201), .ref (a 202), .ref (a 203), .ref (a 204), .ref (a 205), .ref (a 206), .int 0, .int 0, .int 0, .int 0, .ref (a 208), .ref (a 209), .ref (a 210), .ref (a 211), .ref (a 212), .int 4, .int 12, .int (-1), .int 0, .ref (g 200), .ref (a 213), .int 0, .int 97, .ref (a 214), .ref (a 215), .ref (a 207), .null, .int 0])), ((a 203), .inr (5, [.int 0, .ref (g 100), .int 0])), ((a 206), .inr (5, [.int 0, .ref (g 100), .int 0]))] H := hP
  have hD : va_D (va_A [((a 200), f_m a g), ((a 203), .inr (5, [.int 0, .ref (g 100), .int 0])), ((a 206), .inr (5, [.int 0, .ref (g 100), .int 0]))] s.heap.size) [((a 200), .inr (21, [.int 0, .ref (a 201), .ref (a 202), .ref (a 203), .ref (a 204), .ref (a 205), .ref (a 206), .int 0, .int 0, .int 0, .int 0, .ref (a 208), .ref (a 209), .ref (a 210), .ref (a 211), .ref (a 212), .int 4, .int 12, .int (-1), .int 0, .ref (g 200), .ref (a 213), .int 0, .int 97, .ref (a 214), .ref (a 215), .ref (a 207), .null, .int 0])), ((a 203), .inr (5, [.int 0, .ref (g 100), .int 0])), ((a 206), .inr (5, [.int 0, .ref (g 100), .int 0]))] := hD
  refine lv_aload_n hx hb dX15_cycles_5 rfl (lv_at hl 0 rfl) ?_
  refine va_get (D := D) (ci := 21) (v := .ref (a 203)) (C := RX15) (T := TX15) (N := 29) hx hb ht in_X15 hown hK.1 hP 0 rfl rfl 3 (by decide) (ht _ w_382) (fun _ h9 => h9) rfl dX15_cycles_6 ?_
  have hPc : va_P D vwCl [((a 203), .inr (5, [.int 0, .ref (g 100), .int 0]))] _ := hP.sub (ws' := [((a 203), .inr (5, [.int 0, .ref (g 100), .int 0]))]) [1] rfl
  have hDc : va_D (fun q => z0 ≤ q) [((a 203), .inr (5, [.int 0, .ref (g 100), .int 0]))] := (hD.to hAz).pick (ws' := [((a 203), .inr (5, [.int 0, .ref (g 100), .int 0]))]) [1] (by decide) rfl
  have hFc := AnA (ws := [((a 200), f_m a g), ((a 203), .inr (5, [.int 0, .ref (g 100), .int 0])), ((a 206), .inr (5, [.int 0, .ref (g 100), .int 0]))]) hS.1
  refine va_callFi (va_runF (As := []) (rest := []) (hK.1.1 5 _ rfl).2 ⟨hx, hb, hml, hown, ht⟩ (k_Jx4a65c_size_8abf5 l D g z0 _ a (a 203)) (va_cwF 0 ht (gF w_356 w_358 w_359 w_323 w_357) rfl rfl rfl (hK.2.2.2.1 _ (List.mem_of_getElem? (i := 0) rfl)) (by decide +kernel) (le2 rfl rfl)) ⟨PP.blind, va_recv hK.1 hP (ci := 5) (q0 := 1) rfl rfl, PP.mk' hK hZ hz hAz hS hPc hDc⟩ rfl rfl hl.1 rfl (lv_room (Nat.le_of_ble_eq_true rfl)) dX15_cycles_9 (le2 rfl rfl)) hS (fun q _ h => hFc q h) hFc (fun r u t H locs ht1 hvm hw hB hz1 hk1 hS => ?_)
  obtain ⟨rfl, hw⟩ := hw
  have hP := ro1 hP hk1
  refine lv_iconst (v := 1) hx hb dX15_cycles_14 (by decide) ?_
  refine lv_iadd hx hb dX15_cycles_15 ?_
  refine r_topi (v := 1) (by decide) ?_
  refine lv_aload_n hx hb dX15_cycles_16 rfl (lv_at hl 0 rfl) ?_
  refine va_get (D := D) (ci := 21) (v := .ref (a 206)) (C := RX15) (T := TX15) (N := 29) hx hb ht in_X15 hown hK.1 hP 0 rfl rfl 6 (by decide) (ht _ w_304) (fun _ h9 => h9) rfl dX15_cycles_17 ?_
  have hPc : va_P D vwCl [((a 206), .inr (5, [.int 0, .ref (g 100), .int 0]))] _ := hP.sub (ws' := [((a 206), .inr (5, [.int 0, .ref (g 100), .int 0]))]) [2] rfl
  have hDc : va_D (fun q => z0 ≤ q) [((a 206), .inr (5, [.int 0, .ref (g 100), .int 0]))] := (hD.to hAz).pick (ws' := [((a 206), .inr (5, [.int 0, .ref (g 100), .int 0]))]) [2] (by decide) rfl
  have hFc := AnA (ws := [((a 200), f_m a g), ((a 203), .inr (5, [.int 0, .ref (g 100), .int 0])), ((a 206), .inr (5, [.int 0, .ref (g 100), .int 0]))]) hS.1
  refine va_callFi (va_runF (As := []) (rest := [.int 1]) (hK.1.1 5 _ rfl).2 ⟨hx, hb, hml, hown, ht⟩ (k_Jx4a65c_size_8abf5 l D g z0 _ a (a 206)) (va_cwF 0 ht (gF w_356 w_358 w_359 w_323 w_357) rfl rfl rfl (hK.2.2.2.1 _ (List.mem_of_getElem? (i := 0) rfl)) (by decide +kernel) (le2 rfl rfl)) ⟨PP.blind, va_recv hK.1 hP (ci := 5) (q0 := 2) rfl rfl, PP.mk' hK hZ hz hAz hS hPc hDc⟩ rfl rfl hl.1 rfl (lv_room (Nat.le_of_ble_eq_true rfl)) dX15_cycles_20 (le2 rfl rfl)) hS (fun q _ h => hFc q h) hFc (fun r u t H locs ht1 hvm hw hB hz1 hk1 hS => ?_)
  obtain ⟨rfl, hw⟩ := hw
  have hP := ro1 hP hk1
  refine lv_imul hx hb dX15_cycles_25 ?_
  refine r_topi (v := 0) (by decide) ?_
  refine lv_aload_n hx hb dX15_cycles_26 rfl (lv_at hl 0 rfl) ?_
  refine va_get (D := D) (ci := 21) (v := .ref (a 203)) (C := RX15) (T := TX15) (N := 29) hx hb ht in_X15 hown hK.1 hP 0 rfl rfl 3 (by decide) (ht _ w_382) (fun _ h9 => h9) rfl dX15_cycles_27 ?_
  have hPc : va_P D vwCl [((a 203), .inr (5, [.int 0, .ref (g 100), .int 0]))] _ := hP.sub (ws' := [((a 203), .inr (5, [.int 0, .ref (g 100), .int 0]))]) [1] rfl
  have hDc : va_D (fun q => z0 ≤ q) [((a 203), .inr (5, [.int 0, .ref (g 100), .int 0]))] := (hD.to hAz).pick (ws' := [((a 203), .inr (5, [.int 0, .ref (g 100), .int 0]))]) [1] (by decide) rfl
  have hFc := AnA (ws := [((a 200), f_m a g), ((a 203), .inr (5, [.int 0, .ref (g 100), .int 0])), ((a 206), .inr (5, [.int 0, .ref (g 100), .int 0]))]) hS.1
  refine va_callFi (va_runF (As := []) (rest := [.int 0]) (hK.1.1 5 _ rfl).2 ⟨hx, hb, hml, hown, ht⟩ (k_Jx4a65c_size_8abf5 l D g z0 _ a (a 203)) (va_cwF 0 ht (gF w_356 w_358 w_359 w_323 w_357) rfl rfl rfl (hK.2.2.2.1 _ (List.mem_of_getElem? (i := 0) rfl)) (by decide +kernel) (le2 rfl rfl)) ⟨PP.blind, va_recv hK.1 hP (ci := 5) (q0 := 1) rfl rfl, PP.mk' hK hZ hz hAz hS hPc hDc⟩ rfl rfl hl.1 rfl (lv_room (Nat.le_of_ble_eq_true rfl)) dX15_cycles_30 (le2 rfl rfl)) hS (fun q _ h => hFc q h) hFc (fun r u t H locs ht1 hvm hw hB hz1 hk1 hS => ?_)
  obtain ⟨rfl, hw⟩ := hw
  have hP := ro1 hP hk1
  refine lv_iadd hx hb dX15_cycles_35 ?_
  refine r_topi (v := 0) (by decide) ?_
  have hP9 := hP.sub (ws' := [((a 200), .inr (21, [.int 0, .ref (a 201), .ref (a 202), .ref (a 203), .ref (a 204), .ref (a 205), .ref (a 206), .int 0, .int 0, .int 0, .int 0, .ref (a 208), .ref (a 209), .ref (a 210), .ref (a 211), .ref (a 212), .int 4, .int 12, .int (-1), .int 0, .ref (g 200), .ref (a 213), .int 0, .int 97, .ref (a 214), .ref (a 215), .ref (a 207), .null, .int 0]))]) [0] rfl
  have hD9 := hD.sub (ws' := [((a 200), .inr (21, [.int 0, .ref (a 201), .ref (a 202), .ref (a 203), .ref (a 204), .ref (a 205), .ref (a 206), .int 0, .int 0, .int 0, .int 0, .ref (a 208), .ref (a 209), .ref (a 210), .ref (a 211), .ref (a 212), .int 4, .int 12, .int (-1), .int 0, .ref (g 200), .ref (a 213), .int 0, .int 97, .ref (a 214), .ref (a 215), .ref (a 207), .null, .int 0]))]) [0] (by decide) rfl
  refine W.widen (k := 0) (n := 0) (Nat.le_of_ble_eq_true rfl) (Nat.le_of_ble_eq_true rfl) ?_
  exact W.iret (v := 0) hx hb hr (fun t ht9 hW9 => ⟨⟨0, (), rfl, ⟨rfl, trivial⟩, ⟨(by rw [ht9]; exact hP9), hD9⟩⟩, hS.F ht9⟩) hS.2.2 dX15_cycles_36 hlocks
set_option maxHeartbeats 4000000 in
set_option maxRecDepth 100000 in
theorem k_X15_data (l : Launch) (D : va_G) (g : Nat → ClassId) (z0 sz : Nat) (a : Nat → Nat) (p0 : Int32) (p1 : Int32) : Met l yX15_data (.code yX15_data cX15_data 4 (some .int) :: TG) (rmk 2 0 0 43) (va_Pc [.ref (a 200), .int p0, .int p1] (PP D g z0 sz [((a 200), f_m a g), ((a 201), .inr (5, [.int 0, .ref (g 100), .int 0]))])) (va_Qi (fun (r : Int32) (u : Unit) => (r = 0) ∧ True) (fun (u : Unit) (t : State) => va_P D vwCl [((a 200), .inr (21, [.int 1, .ref (a 201), .ref (a 202), .ref (a 203), .ref (a 204), .ref (a 205), .ref (a 206), .int 0, .int 0, .int 0, .int 0, .ref (a 208), .ref (a 209), .ref (a 210), .ref (a 211), .ref (a 212), .int 4, .int 12, .int (-1), .int 0, .ref (g 200), .ref (a 213), .int 0, .int 97, .ref (a 214), .ref (a 215), .ref (a 207), .null, .int 0]))] t.heap ∧ va_D (va_A [((a 200), f_m a g), ((a 201), .inr (5, [.int 0, .ref (g 100), .int 0]))] sz) [((a 200), .inr (21, [.int 1, .ref (a 201), .ref (a 202), .ref (a 203), .ref (a 204), .ref (a 205), .ref (a 206), .int 0, .int 0, .int 0, .int 0, .ref (a 208), .ref (a 209), .ref (a 210), .ref (a 211), .ref (a 212), .int 4, .int 12, .int (-1), .int 0, .ref (g 200), .ref (a 213), .int 0, .int 97, .ref (a 214), .ref (a 215), .ref (a 207), .null, .int 0]))]) (va_A [((a 200), f_m a g), ((a 201), .inr (5, [.int 0, .ref (g 100), .int 0]))] sz)) 0 0 (va_A [((a 200), f_m a g), ((a 201), .inr (5, [.int 0, .ref (g 100), .int 0]))] sz) := by
  refine met0 (cc := cX15_data) (n := 4) (by decide) (Nat.le_of_ble_eq_true rfl) ?_
  intro p e s m args below meth c hx hb hr hml hown ht hlocks hnm hP0 hD0 hK hZ hsz hz ls hl
  subst hsz
  have hA : ∀ q : Nat, s.heap.size ≤ q → va_A [((a 200), f_m a g), ((a 201), .inr (5, [.int 0, .ref (g 100), .int 0]))] s.heap.size q := Anw
  have hAz : ∀ q, va_A [((a 200), f_m a g), ((a 201), .inr (5, [.int 0, .ref (g 100), .int 0]))] s.heap.size q → z0 ≤ q := Awz hz hD0
  have hS : va_S (va_A [((a 200), f_m a g), ((a 201), .inr (5, [.int 0, .ref (g 100), .int 0]))] s.heap.size) s.heap s.heap [] := va_S.rf
  have hD : va_D (va_A [((a 200), f_m a g), ((a 201), .inr (5, [.int 0, .ref (g 100), .int 0]))] s.heap.size) [((a 200), f_m a g), ((a 201), .inr (5, [.int 0, .ref (g 100), .int 0]))] := hD0.self
  have hP : va_P D vwCl [((a 200), f_m a g), ((a 201), .inr (5, [.int 0, .ref (g 100), .int 0]))] s.heap := hP0
  have hl : lv_has ls 4 [(0, .ref (a 200)), (1, .int p0), (2, .int p1)] := hl
  refine lv_aload_n hx hb dX15_data_0 rfl (lv_at hl 0 rfl) ?_
  refine lv_aload_n hx hb dX15_data_1 rfl (lv_at hl 0 rfl) ?_
  refine lv_iload_n hx hb dX15_data_2 rfl (lv_at hl 1 rfl) ?_
  have hPc : va_P D vwCl [((a 200), f_m a g), ((a 201), .inr (5, [.int 0, .ref (g 100), .int 0]))] _ := hP.sub (ws' := [((a 200), f_m a g), ((a 201), .inr (5, [.int 0, .ref (g 100), .int 0]))]) [0, 1] rfl
  have hDc : va_D (fun q => z0 ≤ q) [((a 200), f_m a g), ((a 201), .inr (5, [.int 0, .ref (g 100), .int 0]))] := (hD.to hAz).pick (ws' := [((a 200), f_m a g), ((a 201), .inr (5, [.int 0, .ref (g 100), .int 0]))]) [0, 1] (by decide) rfl
  have hFc := AnA (ws := [((a 200), f_m a g), ((a 201), .inr (5, [.int 0, .ref (g 100), .int 0]))]) hS.1
  refine va_calli (va_runV (As := [.int p0]) (rest := [.ref (a 200)]) ⟨hx, hb, hml, hown, ht⟩ (k_X15_isLine l D g z0 _ a p0) (cwV 1 ht (gV w_429 w_431 w_432 w_334 w_430) rfl rfl rfl (by decide +kernel) (le2 rfl rfl)) ⟨PP.blind, va_recv hK.1 hP (ci := 21) (q0 := 0) rfl rfl, PP.mk' hK hZ hz hAz hS hPc hDc⟩ rfl rfl hl.1 rfl (lv_room (Nat.le_of_ble_eq_true rfl)) dX15_data_3 (le2 rfl rfl)) hS (fun q _ h => hFc q h) hFc (fun r u t H locs ht1 hvm hw hB hz1 hk1 hS => ?_)
  obtain ⟨rfl, hw⟩ := hw
  have hP := ro1 hP hk1
  refine lv_if_eq (tgt := 17) hx hb dX15_data_6 (by decide) (fun c_1 => ?_) (fun c_1 => ?_)
  · refine lv_iconst (v := 1) hx hb dX15_data_17 (by decide) ?_
    refine lv_goto (tgt := 54) hx hb dX15_data_18 (by decide) ?_
    have hPc : va_P D vwCl [((a 200), f_m a g)] _ := hP.sub (ws' := [((a 200), f_m a g)]) [0] rfl
    have hDc : va_D (fun q => z0 ≤ q) [((a 200), f_m a g)] := (hD.to hAz).pick (ws' := [((a 200), f_m a g)]) [0] (by decide) rfl
    have hFc := va_free (wc := [((a 200), f_m a g)]) hD hS hA [0] rfl
    refine va_calli (va_runV (As := [.int 1]) (rest := []) ⟨hx, hb, hml, hown, ht⟩ (k_X15_isWrong l D g z0 _ a) (cwV 1 ht (gV w_376 w_378 w_379 w_334 w_377) rfl rfl rfl (by decide +kernel) (le2 rfl rfl)) ⟨PP.blind, va_recv hK.1 hP (ci := 21) (q0 := 0) rfl rfl, PP.mk' hK hZ hz hAz hS hPc hDc⟩ rfl rfl hl.1 rfl (lv_room (Nat.le_of_ble_eq_true rfl)) dX15_data_54 (le2 rfl rfl)) hS (fun q _ h => hFc q h) hFc (fun r u t H locs ht1 hvm hw hB hz1 hk1 hS => ?_)
    obtain ⟨rfl, hw⟩ := hw
    obtain ⟨hP1, hD1⟩ := hB
    rw [ht1] at hP1
    obtain ⟨hP, hD⟩ := va_join (wr := [((a 201), .inr (5, [.int 0, .ref (g 100), .int 0]))]) (w1 := [((a 200), .inr (21, [.int 1, .ref (a 201), .ref (a 202), .ref (a 203), .ref (a 204), .ref (a 205), .ref (a 206), .int 0, .int 0, .int 0, .int 0, .ref (a 208), .ref (a 209), .ref (a 210), .ref (a 211), .ref (a 212), .int 4, .int 12, .int (-1), .int 0, .ref (g 200), .ref (a 213), .int 0, .int 97, .ref (a 214), .ref (a 215), .ref (a 207), .null, .int 0]))]) hP hD [0] [1] rfl rfl (by decide) (by decide) hk1 hFc hP1 hD1
    have hP : va_P D vwCl [((a 201), .inr (5, [.int 0, .ref (g 100), .int 0])), ((a 200), .inr (21, [.int 1, .ref (a 201), .ref (a 202), .ref (a 203), .ref (a 204), .ref (a 205), .ref (a 206), .int 0, .int 0, .int 0, .int 0, .ref (a 208), .ref (a 209), .ref (a 210), .ref (a 211), .ref (a 212), .int 4, .int 12, .int (-1), .int 0, .ref (g 200), .ref (a 213), .int 0, .int 97, .ref (a 214), .ref (a 215), .ref (a 207), .null, .int 0]))] H := hP
    have hD : va_D (va_A [((a 200), f_m a g), ((a 201), .inr (5, [.int 0, .ref (g 100), .int 0]))] s.heap.size) [((a 201), .inr (5, [.int 0, .ref (g 100), .int 0])), ((a 200), .inr (21, [.int 1, .ref (a 201), .ref (a 202), .ref (a 203), .ref (a 204), .ref (a 205), .ref (a 206), .int 0, .int 0, .int 0, .int 0, .ref (a 208), .ref (a 209), .ref (a 210), .ref (a 211), .ref (a 212), .int 4, .int 12, .int (-1), .int 0, .ref (g 200), .ref (a 213), .int 0, .int 97, .ref (a 214), .ref (a 215), .ref (a 207), .null, .int 0]))] := hD
    refine lv_if_eq (tgt := 62) hx hb dX15_data_57 (by decide) (fun c_2 => ?_) (fun c_2 => ?_)
    · exact absurd c_2 (by decide)
    · refine lv_iconst (v := 0) hx hb dX15_data_60 (by decide) ?_
      have hP9 := hP.sub (ws' := [((a 200), .inr (21, [.int 1, .ref (a 201), .ref (a 202), .ref (a 203), .ref (a 204), .ref (a 205), .ref (a 206), .int 0, .int 0, .int 0, .int 0, .ref (a 208), .ref (a 209), .ref (a 210), .ref (a 211), .ref (a 212), .int 4, .int 12, .int (-1), .int 0, .ref (g 200), .ref (a 213), .int 0, .int 97, .ref (a 214), .ref (a 215), .ref (a 207), .null, .int 0]))]) [1] rfl
      have hD9 := hD.sub (ws' := [((a 200), .inr (21, [.int 1, .ref (a 201), .ref (a 202), .ref (a 203), .ref (a 204), .ref (a 205), .ref (a 206), .int 0, .int 0, .int 0, .int 0, .ref (a 208), .ref (a 209), .ref (a 210), .ref (a 211), .ref (a 212), .int 4, .int 12, .int (-1), .int 0, .ref (g 200), .ref (a 213), .int 0, .int 97, .ref (a 214), .ref (a 215), .ref (a 207), .null, .int 0]))]) [1] (by decide) rfl
      refine W.widen (k := 0) (n := 0) (Nat.le_of_ble_eq_true rfl) (Nat.le_of_ble_eq_true rfl) ?_
      exact W.iret (v := 0) hx hb hr (fun t ht9 hW9 => ⟨⟨0, (), rfl, ⟨rfl, trivial⟩, ⟨(by rw [ht9]; exact hP9), hD9⟩⟩, hS.F ht9⟩) hS.2.2 dX15_data_61 hlocks
  · exact absurd c_1 (by decide)
set_option maxHeartbeats 4000000 in
set_option maxRecDepth 100000 in
theorem k_J0_coder_7d493_v2 (l : Launch) (D : va_G) (g : Nat → ClassId) (z0 sz : Nat) (a : Nat → Nat) : Met l yJ0_coder_7d493 (.code yJ0_coder_7d493 cJ0_coder_7d493 1 (some .byte) :: TG) (rmk 0 0 0 0) (va_Pc [.ref (g 200)] (PP D g z0 sz [])) (va_Qi (fun (r : Int32) (u : Unit) => (r = 0) ∧ True) (fun (_ : Unit) (_ : State) => True) (va_A [] sz)) 0 0 (va_A [] sz) := by
  refine met0 (cc := cJ0_coder_7d493) (n := 1) (by decide) (Nat.le_of_ble_eq_true rfl) ?_
  intro p e s m args below meth c hx hb hr hml hown ht hlocks hnm hP0 hD0 hK hZ hsz hz ls hl
  subst hsz
  have hA : ∀ q : Nat, s.heap.size ≤ q → va_A [] s.heap.size q := Anw
  have hAz : ∀ q, va_A [] s.heap.size q → z0 ≤ q := A0z hz
  have hS : va_S (va_A [] s.heap.size) s.heap s.heap [] := va_S.rf
  have hl : lv_has ls 1 [(0, .ref (g 200))] := hl
  refine va_gets (C := "java/lang/String") (n := "COMPACT_STRINGS") (d := "Z") (v := .int 1) hx hb (hZ.m hAz).2.2.2.1 hS hown (ht _ w_388) (fun _ h9 => h9) dJ0_coder_7d493_0 ?_
  refine lv_if_eq (tgt := 13) hx hb dJ0_coder_7d493_3 (by decide) (fun c_1 => ?_) (fun c_1 => ?_)
  · exact absurd c_1 (by decide)
  · refine lv_aload_n hx hb dJ0_coder_7d493_6 rfl (lv_at hl 0 rfl) ?_
    refine vk_getf (v := .int 0) hx hb ((hZ.m hAz).2.2.1.1 0 (by decide)).2.1 hS hown (ht _ w_389) (fun _ h9 => h9) dJ0_coder_7d493_7 ?_
    refine lv_goto (tgt := 14) hx hb dJ0_coder_7d493_10 (by decide) ?_
    refine W.widen (k := 0) (n := 0) (Nat.le_of_ble_eq_true rfl) (Nat.le_of_ble_eq_true rfl) ?_
    exact W.zret (v := 0) hx hb hr rfl (fun t ht9 hW9 => ⟨⟨0, (), rfl, ⟨rfl, trivial⟩, trivial⟩, hS.F ht9⟩) hS.2.2 dJ0_coder_7d493_14 hlocks
set_option maxHeartbeats 4000000 in
set_option maxRecDepth 100000 in
theorem k_J0_length_8abf5_v2 (l : Launch) (D : va_G) (g : Nat → ClassId) (z0 sz : Nat) (a : Nat → Nat) : Met l yJ0_length_8abf5 (.code yJ0_length_8abf5 cJ0_length_8abf5 1 (some .int) :: TG) (rmk 1 0 0 20) (va_Pc [.ref (g 200)] (PP D g z0 sz [])) (va_Qi (fun (r : Int32) (u : Unit) => (r = 0) ∧ True) (fun (_ : Unit) (_ : State) => True) (va_A [] sz)) 0 0 (va_A [] sz) := by
  refine met0 (cc := cJ0_length_8abf5) (n := 1) (by decide) (Nat.le_of_ble_eq_true rfl) ?_
  intro p e s m args below meth c hx hb hr hml hown ht hlocks hnm hP0 hD0 hK hZ hsz hz ls hl
  subst hsz
  have hA : ∀ q : Nat, s.heap.size ≤ q → va_A [] s.heap.size q := Anw
  have hAz : ∀ q, va_A [] s.heap.size q → z0 ≤ q := A0z hz
  have hS : va_S (va_A [] s.heap.size) s.heap s.heap [] := va_S.rf
  have hl : lv_has ls 1 [(0, .ref (g 200))] := hl
  refine lv_aload_n hx hb dJ0_length_8abf5_0 rfl (lv_at hl 0 rfl) ?_
  refine vk_getf (v := .ref (g 300)) hx hb ((hZ.m hAz).2.2.1.1 0 (by decide)).2.2.1 hS hown (ht _ w_395) (fun _ h9 => h9) dJ0_length_8abf5_1 ?_
  refine va_tlen (v := 0) hx hb ((hZ.m hAz).2.2.1.1 0 (by decide)).2.2.2 hS rfl dJ0_length_8abf5_4 ?_
  refine lv_aload_n hx hb dJ0_length_8abf5_5 rfl (lv_at hl 0 rfl) ?_
  have hPc : va_P D vwCl [] _ := (ro0 hP0 hS).sub (ws' := []) [] rfl
  have hDc : va_D (fun q => z0 ≤ q) [] := hD0.pick (ws' := []) [] (by decide) rfl
  have hFc := AnA (ws := []) hS.1
  refine va_calli (va_runV (As := []) (rest := [.int 0]) ⟨hx, hb, hml, hown, ht⟩ (k_J0_coder_7d493_v2 l D g z0 _ a) (cwV 0 ht (gV w_396 w_398 w_399 w_394 w_397) rfl rfl rfl (by decide +kernel) (le2 rfl rfl)) ⟨PP.blind, vk_recv (i := 0) (hZ.m hAz).2.2.1 (by decide) hS, PP.mk' hK hZ hz hAz hS hPc hDc⟩ rfl rfl hl.1 rfl (lv_room (Nat.le_of_ble_eq_true rfl)) dJ0_length_8abf5_6 (le2 rfl rfl)) hS (fun q _ h => hFc q h) hFc (fun r u t H locs ht1 hvm hw hB hz1 hk1 hS => ?_)
  obtain ⟨rfl, hw⟩ := hw
  refine lv_ishr hx hb dJ0_length_8abf5_9 ?_
  refine r_topi (v := 0) (by decide) ?_
  refine W.widen (k := 0) (n := 0) (Nat.le_of_ble_eq_true rfl) (Nat.le_of_ble_eq_true rfl) ?_
  exact W.iret (v := 0) hx hb hr (fun t ht9 hW9 => ⟨⟨0, (), rfl, ⟨rfl, trivial⟩, trivial⟩, hS.F ht9⟩) hS.2.2 dJ0_length_8abf5_10 hlocks
set_option maxHeartbeats 4000000 in
set_option maxRecDepth 100000 in
theorem k_X15_eraseMarch (l : Launch) (D : va_G) (g : Nat → ClassId) (z0 sz : Nat) (a : Nat → Nat) : Met l yX15_eraseMarch (.code yX15_eraseMarch cX15_eraseMarch 2 (some .int) :: TG) (rmk 2 0 0 40) (va_Pc [.ref (a 200)] (PP D g z0 sz [((a 200), f_m a g)])) (va_Qi (fun (r : Int32) (u : Unit) => (r = 0) ∧ True) (fun (u : Unit) (t : State) => va_P D vwCl [((a 200), .inr (21, [.int 0, .ref (a 201), .ref (a 202), .ref (a 203), .ref (a 204), .ref (a 205), .ref (a 206), .int 0, .int 0, .int 0, .int 0, .ref (a 208), .ref (a 209), .ref (a 210), .ref (a 211), .ref (a 212), .int 4, .int 12, .int (-1), .int 0, .ref (g 200), .ref (a 213), .int 0, .int 97, .ref (a 214), .ref (a 215), .ref (a 207), .null, .int 0]))] t.heap ∧ va_D (va_A [((a 200), f_m a g)] sz) [((a 200), .inr (21, [.int 0, .ref (a 201), .ref (a 202), .ref (a 203), .ref (a 204), .ref (a 205), .ref (a 206), .int 0, .int 0, .int 0, .int 0, .ref (a 208), .ref (a 209), .ref (a 210), .ref (a 211), .ref (a 212), .int 4, .int 12, .int (-1), .int 0, .ref (g 200), .ref (a 213), .int 0, .int 97, .ref (a 214), .ref (a 215), .ref (a 207), .null, .int 0]))]) (va_A [((a 200), f_m a g)] sz)) 0 0 (va_A [((a 200), f_m a g)] sz) := by
  refine met0 (cc := cX15_eraseMarch) (n := 2) (by decide) (Nat.le_of_ble_eq_true rfl) ?_
  intro p e s m args below meth c hx hb hr hml hown ht hlocks hnm hP0 hD0 hK hZ hsz hz ls hl
  subst hsz
  have hA : ∀ q : Nat, s.heap.size ≤ q → va_A [((a 200), f_m a g)] s.heap.size q := Anw
  have hAz : ∀ q, va_A [((a 200), f_m a g)] s.heap.size q → z0 ≤ q := Awz hz hD0
  have hS : va_S (va_A [((a 200), f_m a g)] s.heap.size) s.heap s.heap [] := va_S.rf
  have hD : va_D (va_A [((a 200), f_m a g)] s.heap.size) [((a 200), f_m a g)] := hD0.self
  have hP : va_P D vwCl [((a 200), f_m a g)] s.heap := hP0
  have hl : lv_has ls 2 [(0, .ref (a 200))] := hl
  refine lv_aload_n hx hb dX15_eraseMarch_0 rfl (lv_at hl 0 rfl) ?_
  refine lv_iconst (v := 0) hx hb dX15_eraseMarch_1 (by decide) ?_
  refine va_put (D := D) (ci := 21) (v := .int 0) (ty := .int) (C := RX15) (T := TX15) (N := 29) hx hb ht in_X15 tyX15 tyX15_ok nmX15 hown hK.1 hP hD hS 0 rfl rfl 0 (by decide) (ht _ w_303) (fun _ h9 => h9) rfl (by decide +kernel) rfl rfl (Nat.le_of_ble_eq_true rfl) dX15_eraseMarch_2 (fun H locs hP hD hS => ?_)
  have hP : va_P D vwCl [((a 200), .inr (21, [.int 0, .ref (a 201), .ref (a 202), .ref (a 203), .ref (a 204), .ref (a 205), .ref (a 206), .int 0, .int 0, .int 0, .int 0, .ref (a 208), .ref (a 209), .ref (a 210), .ref (a 211), .ref (a 212), .int 4, .int 12, .int (-1), .int 0, .ref (g 200), .ref (a 213), .int 0, .int 97, .ref (a 214), .ref (a 215), .ref (a 207), .null, .int 0]))] H := hP
  have hD : va_D (va_A [((a 200), f_m a g)] s.heap.size) [((a 200), .inr (21, [.int 0, .ref (a 201), .ref (a 202), .ref (a 203), .ref (a 204), .ref (a 205), .ref (a 206), .int 0, .int 0, .int 0, .int 0, .ref (a 208), .ref (a 209), .ref (a 210), .ref (a 211), .ref (a 212), .int 4, .int 12, .int (-1), .int 0, .ref (g 200), .ref (a 213), .int 0, .int 97, .ref (a 214), .ref (a 215), .ref (a 207), .null, .int 0]))] := hD
  refine lv_aload_n hx hb dX15_eraseMarch_5 rfl (lv_at hl 0 rfl) ?_
  refine va_get (D := D) (ci := 21) (v := .ref (g 200)) (C := RX15) (T := TX15) (N := 29) hx hb ht in_X15 hown hK.1 hP 0 rfl rfl 20 (by decide) (ht _ w_491) (fun _ h9 => h9) rfl dX15_eraseMarch_6 ?_
  have hPc : va_P D vwCl [] _ := hP.sub (ws' := []) [] rfl
  have hDc : va_D (fun q => z0 ≤ q) [] := (hD.to hAz).pick (ws' := []) [] (by decide) rfl
  have hFc := AnA (ws := [((a 200), f_m a g)]) hS.1
  refine va_calli (va_runV (As := []) (rest := []) ⟨hx, hb, hml, hown, ht⟩ (k_J0_length_8abf5_v2 l D g z0 _ a) (cwV 0 ht (gV w_492 w_402 w_403 w_394 w_401) rfl rfl rfl (by decide +kernel) (le2 rfl rfl)) ⟨PP.blind, vk_recv (i := 0) (hZ.m hAz).2.2.1 (by decide) hS, PP.mk' hK hZ hz hAz hS hPc hDc⟩ rfl rfl hl.1 rfl (lv_room (Nat.le_of_ble_eq_true rfl)) dX15_eraseMarch_9 (le2 rfl rfl)) hS (fun q _ h => hFc q h) hFc (fun r u t H locs ht1 hvm hw hB hz1 hk1 hS => ?_)
  obtain ⟨rfl, hw⟩ := hw
  have hP := ro1 hP hk1
  refine lv_istore_n (lv' := [(1, .int 0), (0, .ref (a 200))]) hx hb dX15_eraseMarch_12 rfl hl (by decide) rfl (fun ls hl => ?_)
  refine lv_aload_n hx hb dX15_eraseMarch_13 rfl (lv_at hl 1 rfl) ?_
  refine va_ldcS (index := 62) (tx := "") (q := g 200) hx hb hown (hK.2.2.2.2.2.2.1 0 (by decide)) dX15_eraseMarch_14 ?_
  refine va_put (D := D) (ci := 21) (v := .ref (g 200)) (ty := .object "java/lang/String") (C := RX15) (T := TX15) (N := 29) hx hb ht in_X15 tyX15 tyX15_ok nmX15 hown hK.1 hP hD hS 0 rfl rfl 20 (by decide) (ht _ w_491) (fun _ h9 => h9) rfl (by decide +kernel) rfl rfl (Nat.le_of_ble_eq_true rfl) dX15_eraseMarch_16 (fun H locs hP hD hS => ?_)
  have hP : va_P D vwCl [((a 200), .inr (21, [.int 0, .ref (a 201), .ref (a 202), .ref (a 203), .ref (a 204), .ref (a 205), .ref (a 206), .int 0, .int 0, .int 0, .int 0, .ref (a 208), .ref (a 209), .ref (a 210), .ref (a 211), .ref (a 212), .int 4, .int 12, .int (-1), .int 0, .ref (g 200), .ref (a 213), .int 0, .int 97, .ref (a 214), .ref (a 215), .ref (a 207), .null, .int 0]))] H := hP
  have hD : va_D (va_A [((a 200), f_m a g)] s.heap.size) [((a 200), .inr (21, [.int 0, .ref (a 201), .ref (a 202), .ref (a 203), .ref (a 204), .ref (a 205), .ref (a 206), .int 0, .int 0, .int 0, .int 0, .ref (a 208), .ref (a 209), .ref (a 210), .ref (a 211), .ref (a 212), .int 4, .int 12, .int (-1), .int 0, .ref (g 200), .ref (a 213), .int 0, .int 97, .ref (a 214), .ref (a 215), .ref (a 207), .null, .int 0]))] := hD
  refine lv_iload_n hx hb dX15_eraseMarch_19 rfl (lv_at hl 0 rfl) ?_
  have hP9 := hP.sub (ws' := [((a 200), .inr (21, [.int 0, .ref (a 201), .ref (a 202), .ref (a 203), .ref (a 204), .ref (a 205), .ref (a 206), .int 0, .int 0, .int 0, .int 0, .ref (a 208), .ref (a 209), .ref (a 210), .ref (a 211), .ref (a 212), .int 4, .int 12, .int (-1), .int 0, .ref (g 200), .ref (a 213), .int 0, .int 97, .ref (a 214), .ref (a 215), .ref (a 207), .null, .int 0]))]) [0] rfl
  have hD9 := hD.sub (ws' := [((a 200), .inr (21, [.int 0, .ref (a 201), .ref (a 202), .ref (a 203), .ref (a 204), .ref (a 205), .ref (a 206), .int 0, .int 0, .int 0, .int 0, .ref (a 208), .ref (a 209), .ref (a 210), .ref (a 211), .ref (a 212), .int 4, .int 12, .int (-1), .int 0, .ref (g 200), .ref (a 213), .int 0, .int 97, .ref (a 214), .ref (a 215), .ref (a 207), .null, .int 0]))]) [0] (by decide) rfl
  refine W.widen (k := 0) (n := 0) (Nat.le_of_ble_eq_true rfl) (Nat.le_of_ble_eq_true rfl) ?_
  exact W.iret (v := 0) hx hb hr (fun t ht9 hW9 => ⟨⟨0, (), rfl, ⟨rfl, trivial⟩, ⟨(by rw [ht9]; exact hP9), hD9⟩⟩, hS.F ht9⟩) hS.2.2 dX15_eraseMarch_20 hlocks
set_option maxHeartbeats 4000000 in
set_option maxRecDepth 100000 in
theorem k_X15_isBetween_v8 (l : Launch) (D : va_G) (g : Nat → ClassId) (z0 sz : Nat) (a : Nat → Nat) (p0 : Int32) : Met l yX15_isBetween (.code yX15_isBetween cX15_isBetween 3 (some .boolean) :: TG) (rmk 0 0 0 0) (va_Pc [.int p0, .int 0, .int 0] (PP D g z0 sz [])) (va_Qi (fun (r : Int32) (u : Unit) => ((r = 0) ∧ ((p0 < 0) ∨ ((¬ p0 < 0) ∧ ((0 : Int32) < p0)))) ∨ ((r = 1) ∧ ((¬ p0 < 0) ∧ (¬ (0 : Int32) < p0)))) (fun (_ : Unit) (_ : State) => True) (va_A [] sz)) 0 0 (va_A [] sz) := by
  refine met0 (cc := cX15_isBetween) (n := 3) (by decide) (Nat.le_of_ble_eq_true rfl) ?_
  intro p e s m args below meth c hx hb hr hml hown ht hlocks hnm hP0 hD0 hK hZ hsz hz ls hl
  subst hsz
  have hA : ∀ q : Nat, s.heap.size ≤ q → va_A [] s.heap.size q := Anw
  have hAz : ∀ q, va_A [] s.heap.size q → z0 ≤ q := A0z hz
  have hS : va_S (va_A [] s.heap.size) s.heap s.heap [] := va_S.rf
  have hl : lv_has ls 3 [(0, .int p0), (1, .int 0), (2, .int 0)] := hl
  refine lv_iload_n hx hb dX15_isBetween_0 rfl (lv_at hl 1 rfl) ?_
  refine lv_iload_n hx hb dX15_isBetween_1 rfl (lv_at hl 0 rfl) ?_
  refine lv_icmp_gt (tgt := 14) hx hb dX15_isBetween_2 (by decide) (fun c_1 => ?_) (fun c_1 => ?_)
  · refine lv_iconst (v := 0) hx hb dX15_isBetween_14 (by decide) ?_
    refine W.widen (k := 0) (n := 0) (Nat.le_of_ble_eq_true rfl) (Nat.le_of_ble_eq_true rfl) ?_
    exact W.zret (v := 0) hx hb hr rfl (fun t ht9 hW9 => ⟨⟨0, (), rfl, (Or.inl ⟨rfl, (Or.inl c_1)⟩), trivial⟩, hS.F ht9⟩) hS.2.2 dX15_isBetween_15 hlocks
  · refine lv_iload_n hx hb dX15_isBetween_5 rfl (lv_at hl 0 rfl) ?_
    refine lv_iload_n hx hb dX15_isBetween_6 rfl (lv_at hl 2 rfl) ?_
    refine lv_icmp_gt (tgt := 14) hx hb dX15_isBetween_7 (by decide) (fun c_2 => ?_) (fun c_2 => ?_)
    · refine lv_iconst (v := 0) hx hb dX15_isBetween_14 (by decide) ?_
      refine W.widen (k := 0) (n := 0) (Nat.le_of_ble_eq_true rfl) (Nat.le_of_ble_eq_true rfl) ?_
      exact W.zret (v := 0) hx hb hr rfl (fun t ht9 hW9 => ⟨⟨0, (), rfl, (Or.inl ⟨rfl, (Or.inr ⟨c_1, c_2⟩)⟩), trivial⟩, hS.F ht9⟩) hS.2.2 dX15_isBetween_15 hlocks
    · refine lv_iconst (v := 1) hx hb dX15_isBetween_10 (by decide) ?_
      refine lv_goto (tgt := 15) hx hb dX15_isBetween_11 (by decide) ?_
      refine W.widen (k := 0) (n := 0) (Nat.le_of_ble_eq_true rfl) (Nat.le_of_ble_eq_true rfl) ?_
      exact W.zret (v := 1) hx hb hr rfl (fun t ht9 hW9 => ⟨⟨1, (), rfl, (Or.inr ⟨rfl, ⟨c_1, c_2⟩⟩), trivial⟩, hS.F ht9⟩) hS.2.2 dX15_isBetween_15 hlocks
set_option maxHeartbeats 4000000 in
set_option maxRecDepth 100000 in
theorem k_X15_order (l : Launch) (D : va_G) (g : Nat → ClassId) (z0 sz : Nat) (a : Nat → Nat) : Met l yX15_order (.code yX15_order cX15_order 15 (some (.object "java/util/List")) :: TG) (rmk 5 6 6 95) (va_Pc [.ref (a 200)] (PP D g z0 sz [((a 200), f_m a g), ((a 201), .inr (5, [.int 0, .ref (g 100), .int 0])), ((a 206), .inr (5, [.int 0, .ref (g 100), .int 0]))])) (va_Qr (fun (u : Unit) => True) (fun (u : Unit) (r : Nat) (t : State) => ∃ (q_6 : Nat), q_6 = r ∧ va_P D vwCl [((a 206), .inr (5, [.int 0, .ref (g 100), .int 0])), ((a 200), f_m a g), ((a 201), .inr (5, [.int 0, .ref (g 100), .int 0])), (q_6, .inr (5, [.int 0, .ref (g 100), .int 0]))] t.heap ∧ va_D (va_A [((a 200), f_m a g), ((a 201), .inr (5, [.int 0, .ref (g 100), .int 0])), ((a 206), .inr (5, [.int 0, .ref (g 100), .int 0]))] sz) [((a 206), .inr (5, [.int 0, .ref (g 100), .int 0])), ((a 200), f_m a g), ((a 201), .inr (5, [.int 0, .ref (g 100), .int 0])), (q_6, .inr (5, [.int 0, .ref (g 100), .int 0]))]) (va_A [((a 200), f_m a g), ((a 201), .inr (5, [.int 0, .ref (g 100), .int 0])), ((a 206), .inr (5, [.int 0, .ref (g 100), .int 0]))] sz)) 6 6 (va_A [((a 200), f_m a g), ((a 201), .inr (5, [.int 0, .ref (g 100), .int 0])), ((a 206), .inr (5, [.int 0, .ref (g 100), .int 0]))] sz) := by
  refine met0 (cc := cX15_order) (n := 15) (by decide) (Nat.le_of_ble_eq_true rfl) ?_
  intro p e s m args below meth c hx hb hr hml hown ht hlocks hnm hP0 hD0 hK hZ hsz hz ls hl
  subst hsz
  have hA : ∀ q : Nat, s.heap.size ≤ q → va_A [((a 200), f_m a g), ((a 201), .inr (5, [.int 0, .ref (g 100), .int 0])), ((a 206), .inr (5, [.int 0, .ref (g 100), .int 0]))] s.heap.size q := Anw
  have hAz : ∀ q, va_A [((a 200), f_m a g), ((a 201), .inr (5, [.int 0, .ref (g 100), .int 0])), ((a 206), .inr (5, [.int 0, .ref (g 100), .int 0]))] s.heap.size q → z0 ≤ q := Awz hz hD0
  have hS : va_S (va_A [((a 200), f_m a g), ((a 201), .inr (5, [.int 0, .ref (g 100), .int 0])), ((a 206), .inr (5, [.int 0, .ref (g 100), .int 0]))] s.heap.size) s.heap s.heap [] := va_S.rf
  have hD : va_D (va_A [((a 200), f_m a g), ((a 201), .inr (5, [.int 0, .ref (g 100), .int 0])), ((a 206), .inr (5, [.int 0, .ref (g 100), .int 0]))] s.heap.size) [((a 200), f_m a g), ((a 201), .inr (5, [.int 0, .ref (g 100), .int 0])), ((a 206), .inr (5, [.int 0, .ref (g 100), .int 0]))] := hD0.self
  have hP : va_P D vwCl [((a 200), f_m a g), ((a 201), .inr (5, [.int 0, .ref (g 100), .int 0])), ((a 206), .inr (5, [.int 0, .ref (g 100), .int 0]))] s.heap := hP0
  have hl : lv_has ls 15 [(0, .ref (a 200))] := hl
  refine lv_aload_n hx hb dX15_order_0 rfl (lv_at hl 0 rfl) ?_
  have hPc : va_P D vwCl [((a 200), f_m a g), ((a 201), .inr (5, [.int 0, .ref (g 100), .int 0]))] _ := hP.sub (ws' := [((a 200), f_m a g), ((a 201), .inr (5, [.int 0, .ref (g 100), .int 0]))]) [0, 1] rfl
  have hDc : va_D (fun q => z0 ≤ q) [((a 200), f_m a g), ((a 201), .inr (5, [.int 0, .ref (g 100), .int 0]))] := (hD.to hAz).pick (ws' := [((a 200), f_m a g), ((a 201), .inr (5, [.int 0, .ref (g 100), .int 0]))]) [0, 1] (by decide) rfl
  have hFc := va_free (wc := [((a 200), f_m a g), ((a 201), .inr (5, [.int 0, .ref (g 100), .int 0]))]) hD hS hA [0, 1] rfl
  refine va_callr (va_runV (As := []) (rest := []) ⟨hx, hb, hml, hown, ht⟩ (k_X15_allClasses l D g z0 _ a) (cwV 0 ht (gV w_364 w_366 w_367 w_334 w_365) rfl rfl rfl (by decide +kernel) (le2 rfl rfl)) ⟨PP.blind, va_recv hK.1 hP (ci := 21) (q0 := 0) rfl rfl, PP.mk' hK hZ hz hAz hS hPc hDc⟩ rfl rfl hl.1 rfl (lv_room (Nat.le_of_ble_eq_true rfl)) dX15_order_1 (le2 rfl rfl)) hS (fun q _ h => hFc q h) hFc (fun u ra t H locs ht1 hvm hw hB hz1 hk1 hS => ?_)
  obtain ⟨q_1, hr9, hP1, hD1⟩ := hB
  rw [ht1] at hP1
  obtain ⟨hP, hD⟩ := va_join (wr := [((a 206), .inr (5, [.int 0, .ref (g 100), .int 0]))]) (w1 := [(q_1, .inr (5, [.int 0, .ref (g 100), .int 0])), ((a 200), f_m a g), ((a 201), .inr (5, [.int 0, .ref (g 100), .int 0]))]) hP hD [0, 1] [2] rfl rfl (by decide) (by decide) hk1 hFc hP1 hD1
  subst hr9
  have hP : va_P D vwCl [((a 206), .inr (5, [.int 0, .ref (g 100), .int 0])), (q_1, .inr (5, [.int 0, .ref (g 100), .int 0])), ((a 200), f_m a g), ((a 201), .inr (5, [.int 0, .ref (g 100), .int 0]))] H := hP
  have hD : va_D (va_A [((a 200), f_m a g), ((a 201), .inr (5, [.int 0, .ref (g 100), .int 0])), ((a 206), .inr (5, [.int 0, .ref (g 100), .int 0]))] s.heap.size) [((a 206), .inr (5, [.int 0, .ref (g 100), .int 0])), (q_1, .inr (5, [.int 0, .ref (g 100), .int 0])), ((a 200), f_m a g), ((a 201), .inr (5, [.int 0, .ref (g 100), .int 0]))] := hD
  refine lv_astore_n (lv' := [(1, .ref q_1), (0, .ref (a 200))]) hx hb dX15_order_4 rfl hl (by decide) rfl (fun ls hl => ?_)
  refine lv_aload_n hx hb dX15_order_5 rfl (lv_at hl 0 rfl) ?_
  have hPc : va_P D vwCl [(q_1, .inr (5, [.int 0, .ref (g 100), .int 0]))] _ := hP.sub (ws' := [(q_1, .inr (5, [.int 0, .ref (g 100), .int 0]))]) [1] rfl
  have hDc : va_D (fun q => z0 ≤ q) [(q_1, .inr (5, [.int 0, .ref (g 100), .int 0]))] := (hD.to hAz).pick (ws' := [(q_1, .inr (5, [.int 0, .ref (g 100), .int 0]))]) [1] (by decide) rfl
  have hFc := AnA (ws := [((a 200), f_m a g), ((a 201), .inr (5, [.int 0, .ref (g 100), .int 0])), ((a 206), .inr (5, [.int 0, .ref (g 100), .int 0]))]) hS.1
  refine va_callFi (va_runF (As := []) (rest := []) (hK.1.1 5 _ rfl).2 ⟨hx, hb, hml, hown, ht⟩ (k_Jx4a65c_size_8abf5 l D g z0 _ a q_1) (va_cwF 0 ht (gF w_356 w_358 w_359 w_323 w_357) rfl rfl rfl (hK.2.2.2.1 _ (List.mem_of_getElem? (i := 0) rfl)) (by decide +kernel) (le2 rfl rfl)) ⟨PP.blind, va_recv hK.1 hP (ci := 5) (q0 := 1) rfl rfl, PP.mk' hK hZ hz hAz hS hPc hDc⟩ rfl rfl hl.1 rfl (lv_room (Nat.le_of_ble_eq_true rfl)) dX15_order_6 (le2 rfl rfl)) hS (fun q _ h => hFc q h) hFc (fun r u t H locs ht1 hvm hw hB hz1 hk1 hS => ?_)
  obtain ⟨rfl, hw⟩ := hw
  have hP := ro1 hP hk1
  refine r_newa (atype := .long) (cy := g 1) (a0 := (0, .inr (.inl (fun _ => 0)))) hx hb (ht _ w_493) hK.2.1.2.1 hP hD hS hA (fun _ => rfl) (by decide) (by decide) (by decide) (Nat.le_of_ble_eq_true rfl) (Nat.le_of_ble_eq_true rfl) dX15_order_11 (fun q_2 H hP hD hS => ?_)
  have hP : va_P D vwCl [((a 206), .inr (5, [.int 0, .ref (g 100), .int 0])), (q_1, .inr (5, [.int 0, .ref (g 100), .int 0])), ((a 200), f_m a g), ((a 201), .inr (5, [.int 0, .ref (g 100), .int 0])), (q_2, .inl (g 1, 0, .inr (.inl (fun _ => 0))))] H := hP
  have hD : va_D (va_A [((a 200), f_m a g), ((a 201), .inr (5, [.int 0, .ref (g 100), .int 0])), ((a 206), .inr (5, [.int 0, .ref (g 100), .int 0]))] s.heap.size) [((a 206), .inr (5, [.int 0, .ref (g 100), .int 0])), (q_1, .inr (5, [.int 0, .ref (g 100), .int 0])), ((a 200), f_m a g), ((a 201), .inr (5, [.int 0, .ref (g 100), .int 0])), (q_2, .inl (g 1, 0, .inr (.inl (fun _ => 0))))] := hD
  refine lv_astore_n (lv' := [(2, .ref q_2), (1, .ref q_1), (0, .ref (a 200))]) hx hb dX15_order_13 rfl hl (by decide) rfl (fun ls hl => ?_)
  refine lv_aload_n hx hb dX15_order_14 rfl (lv_at hl 2 rfl) ?_
  have hPc : va_P D vwCl [((a 200), f_m a g), ((a 201), .inr (5, [.int 0, .ref (g 100), .int 0]))] _ := hP.sub (ws' := [((a 200), f_m a g), ((a 201), .inr (5, [.int 0, .ref (g 100), .int 0]))]) [2, 3] rfl
  have hDc : va_D (fun q => z0 ≤ q) [((a 200), f_m a g), ((a 201), .inr (5, [.int 0, .ref (g 100), .int 0]))] := (hD.to hAz).pick (ws' := [((a 200), f_m a g), ((a 201), .inr (5, [.int 0, .ref (g 100), .int 0]))]) [2, 3] (by decide) rfl
  have hFc := va_free (wc := [((a 200), f_m a g), ((a 201), .inr (5, [.int 0, .ref (g 100), .int 0]))]) hD hS hA [2, 3] rfl
  refine va_callr (va_runV (As := []) (rest := []) ⟨hx, hb, hml, hown, ht⟩ (k_X15_firsts l D g z0 _ a) (cwV 0 ht (gV w_360 w_362 w_363 w_334 w_361) rfl rfl rfl (by decide +kernel) (le2 rfl rfl)) ⟨PP.blind, va_recv hK.1 hP (ci := 21) (q0 := 2) rfl rfl, PP.mk' hK hZ hz hAz hS hPc hDc⟩ rfl rfl hl.1 rfl (lv_room (Nat.le_of_ble_eq_true rfl)) dX15_order_15 (le2 rfl rfl)) hS (fun q _ h => hFc q h) hFc (fun u ra t H locs ht1 hvm hw hB hz1 hk1 hS => ?_)
  obtain ⟨q_3, hr9, hP1, hD1⟩ := hB
  rw [ht1] at hP1
  obtain ⟨hP, hD⟩ := va_join (wr := [((a 206), .inr (5, [.int 0, .ref (g 100), .int 0])), (q_1, .inr (5, [.int 0, .ref (g 100), .int 0])), (q_2, .inl (g 1, 0, .inr (.inl (fun _ => 0))))]) (w1 := [((a 200), f_m a g), ((a 201), .inr (5, [.int 0, .ref (g 100), .int 0])), (q_3, .inl (g 0, 0, .inl (fun _ => 0)))]) hP hD [2, 3] [0, 1, 4] rfl rfl (by decide) (by decide) hk1 hFc hP1 hD1
  subst hr9
  have hP : va_P D vwCl [((a 206), .inr (5, [.int 0, .ref (g 100), .int 0])), (q_1, .inr (5, [.int 0, .ref (g 100), .int 0])), (q_2, .inl (g 1, 0, .inr (.inl (fun _ => 0)))), ((a 200), f_m a g), ((a 201), .inr (5, [.int 0, .ref (g 100), .int 0])), (q_3, .inl (g 0, 0, .inl (fun _ => 0)))] H := hP
  have hD : va_D (va_A [((a 200), f_m a g), ((a 201), .inr (5, [.int 0, .ref (g 100), .int 0])), ((a 206), .inr (5, [.int 0, .ref (g 100), .int 0]))] s.heap.size) [((a 206), .inr (5, [.int 0, .ref (g 100), .int 0])), (q_1, .inr (5, [.int 0, .ref (g 100), .int 0])), (q_2, .inl (g 1, 0, .inr (.inl (fun _ => 0)))), ((a 200), f_m a g), ((a 201), .inr (5, [.int 0, .ref (g 100), .int 0])), (q_3, .inl (g 0, 0, .inl (fun _ => 0)))] := hD
  refine lv_astore_n (lv' := [(3, .ref q_3), (2, .ref q_2), (1, .ref q_1), (0, .ref (a 200))]) hx hb dX15_order_18 rfl hl (by decide) rfl (fun ls hl => ?_)
  refine lv_aload_n hx hb dX15_order_19 rfl (lv_at hl 1 rfl) ?_
  refine va_alen (v := 0) hx hb hK.1 hP 2 1 rfl rfl (by decide) dX15_order_20 ?_
  refine r_newa (atype := .long) (cy := g 1) (a0 := (0, .inr (.inl (fun _ => 0)))) hx hb (ht _ w_493) hK.2.1.2.1 hP hD hS hA (fun _ => rfl) (by decide) (by decide) (by decide) (Nat.le_of_ble_eq_true rfl) (Nat.le_of_ble_eq_true rfl) dX15_order_21 (fun q_4 H hP hD hS => ?_)
  have hP : va_P D vwCl [((a 206), .inr (5, [.int 0, .ref (g 100), .int 0])), (q_1, .inr (5, [.int 0, .ref (g 100), .int 0])), (q_2, .inl (g 1, 0, .inr (.inl (fun _ => 0)))), ((a 200), f_m a g), ((a 201), .inr (5, [.int 0, .ref (g 100), .int 0])), (q_3, .inl (g 0, 0, .inl (fun _ => 0))), (q_4, .inl (g 1, 0, .inr (.inl (fun _ => 0))))] H := hP
  have hD : va_D (va_A [((a 200), f_m a g), ((a 201), .inr (5, [.int 0, .ref (g 100), .int 0])), ((a 206), .inr (5, [.int 0, .ref (g 100), .int 0]))] s.heap.size) [((a 206), .inr (5, [.int 0, .ref (g 100), .int 0])), (q_1, .inr (5, [.int 0, .ref (g 100), .int 0])), (q_2, .inl (g 1, 0, .inr (.inl (fun _ => 0)))), ((a 200), f_m a g), ((a 201), .inr (5, [.int 0, .ref (g 100), .int 0])), (q_3, .inl (g 0, 0, .inl (fun _ => 0))), (q_4, .inl (g 1, 0, .inr (.inl (fun _ => 0))))] := hD
  refine lv_astore (lv' := [(4, .ref q_4), (3, .ref q_3), (2, .ref q_2), (1, .ref q_1), (0, .ref (a 200))]) hx hb dX15_order_23 hl (by decide) rfl (fun ls hl => ?_)
  refine lv_iconst (v := 0) hx hb dX15_order_25 (by decide) ?_
  refine lv_istore (lv' := [(5, .int 0), (4, .ref q_4), (3, .ref q_3), (2, .ref q_2), (1, .ref q_1), (0, .ref (a 200))]) hx hb dX15_order_26 hl (by decide) rfl (fun ls hl => ?_)
  refine lv_iload hx hb dX15_order_28 (lv_at hl 0 rfl) ?_
  refine lv_aload_n hx hb dX15_order_30 rfl (lv_at hl 3 rfl) ?_
  refine va_alen (v := 0) hx hb hK.1 hP 2 1 rfl rfl (by decide) dX15_order_31 ?_
  refine lv_icmp_ge (tgt := 92) hx hb dX15_order_32 (by decide) (fun c_5 => ?_) (fun c_5 => ?_)
  · refine va_new (ci := 5) (fs := [.int 0, .null, .int 0]) (C := RJx4a65c) (T := TJx4a65c) (N := 3) hx hb ht in_Jx4a65c tyJx4a65c tyJx4a65c_ok hown (ht _ w_335) (ht _ w_336) (ht _ w_323) hK.1 hP hD hS hA rfl (fun j hj => by rcases (show j = 0 ∨ j = 1 ∨ j = 2 by omega) with rfl | rfl | rfl <;> rfl) (Nat.le_of_ble_eq_true rfl) (Nat.le_of_ble_eq_true rfl) dX15_order_92 (fun q_6 H hP hD hS => ?_)
    have hP : va_P D vwCl [((a 206), .inr (5, [.int 0, .ref (g 100), .int 0])), (q_1, .inr (5, [.int 0, .ref (g 100), .int 0])), (q_2, .inl (g 1, 0, .inr (.inl (fun _ => 0)))), ((a 200), f_m a g), ((a 201), .inr (5, [.int 0, .ref (g 100), .int 0])), (q_3, .inl (g 0, 0, .inl (fun _ => 0))), (q_4, .inl (g 1, 0, .inr (.inl (fun _ => 0)))), (q_6, .inr (5, [.int 0, .null, .int 0]))] H := hP
    have hD : va_D (va_A [((a 200), f_m a g), ((a 201), .inr (5, [.int 0, .ref (g 100), .int 0])), ((a 206), .inr (5, [.int 0, .ref (g 100), .int 0]))] s.heap.size) [((a 206), .inr (5, [.int 0, .ref (g 100), .int 0])), (q_1, .inr (5, [.int 0, .ref (g 100), .int 0])), (q_2, .inl (g 1, 0, .inr (.inl (fun _ => 0)))), ((a 200), f_m a g), ((a 201), .inr (5, [.int 0, .ref (g 100), .int 0])), (q_3, .inl (g 0, 0, .inl (fun _ => 0))), (q_4, .inl (g 1, 0, .inr (.inl (fun _ => 0)))), (q_6, .inr (5, [.int 0, .null, .int 0]))] := hD
    refine lv_dup hx hb dX15_order_95 rfl ?_
    have hPc : va_P D vwCl [(q_6, .inr (5, [.int 0, .null, .int 0]))] _ := hP.sub (ws' := [(q_6, .inr (5, [.int 0, .null, .int 0]))]) [7] rfl
    have hDc : va_D (fun q => z0 ≤ q) [(q_6, .inr (5, [.int 0, .null, .int 0]))] := (hD.to hAz).pick (ws' := [(q_6, .inr (5, [.int 0, .null, .int 0]))]) [7] (by decide) rfl
    have hFc := va_free (wc := [(q_6, .inr (5, [.int 0, .null, .int 0]))]) hD hS hA [7] rfl
    refine va_callv (va_runI (As := []) (rest := [.ref q_6]) ⟨hx, hb, hml, hown, ht⟩ (k_Jx4a65c_init_da8c8 l D g z0 _ a q_6) (cwI 0 ht (gI w_350) rfl rfl rfl (ht _ w_323) (ht _ w_349) (ht _ w_351) rfl (by decide +kernel) (le2 rfl rfl)) ⟨PP.blind, PP.mk' hK hZ hz hAz hS hPc hDc⟩ rfl rfl hl.1 rfl (lv_room (Nat.le_of_ble_eq_true rfl)) dX15_order_96 (le2 rfl rfl)) hS (fun q _ h => hFc q h) hFc (fun u t H locs ht1 hvm hw hB hz1 hk1 hS => ?_)
    obtain ⟨hP1, hD1⟩ := hB
    rw [ht1] at hP1
    obtain ⟨hP, hD⟩ := va_join (wr := [((a 206), .inr (5, [.int 0, .ref (g 100), .int 0])), (q_1, .inr (5, [.int 0, .ref (g 100), .int 0])), (q_2, .inl (g 1, 0, .inr (.inl (fun _ => 0)))), ((a 200), f_m a g), ((a 201), .inr (5, [.int 0, .ref (g 100), .int 0])), (q_3, .inl (g 0, 0, .inl (fun _ => 0))), (q_4, .inl (g 1, 0, .inr (.inl (fun _ => 0))))]) (w1 := [(q_6, .inr (5, [.int 0, .ref (g 100), .int 0]))]) hP hD [7] [0, 1, 2, 3, 4, 5, 6] rfl rfl (by decide) (by decide) hk1 hFc hP1 hD1
    have hP : va_P D vwCl [((a 206), .inr (5, [.int 0, .ref (g 100), .int 0])), (q_1, .inr (5, [.int 0, .ref (g 100), .int 0])), (q_2, .inl (g 1, 0, .inr (.inl (fun _ => 0)))), ((a 200), f_m a g), ((a 201), .inr (5, [.int 0, .ref (g 100), .int 0])), (q_3, .inl (g 0, 0, .inl (fun _ => 0))), (q_4, .inl (g 1, 0, .inr (.inl (fun _ => 0)))), (q_6, .inr (5, [.int 0, .ref (g 100), .int 0]))] H := hP
    have hD : va_D (va_A [((a 200), f_m a g), ((a 201), .inr (5, [.int 0, .ref (g 100), .int 0])), ((a 206), .inr (5, [.int 0, .ref (g 100), .int 0]))] s.heap.size) [((a 206), .inr (5, [.int 0, .ref (g 100), .int 0])), (q_1, .inr (5, [.int 0, .ref (g 100), .int 0])), (q_2, .inl (g 1, 0, .inr (.inl (fun _ => 0)))), ((a 200), f_m a g), ((a 201), .inr (5, [.int 0, .ref (g 100), .int 0])), (q_3, .inl (g 0, 0, .inl (fun _ => 0))), (q_4, .inl (g 1, 0, .inr (.inl (fun _ => 0)))), (q_6, .inr (5, [.int 0, .ref (g 100), .int 0]))] := hD
    refine lv_astore (lv' := [(5, .ref q_6), (4, .ref q_4), (3, .ref q_3), (2, .ref q_2), (1, .ref q_1), (0, .ref (a 200))]) hx hb dX15_order_99 hl (by decide) rfl (fun ls hl => ?_)
    refine lv_lconst (v := 0) hx hb dX15_order_101 (by decide) ?_
    refine lv_lstore (lv' := [(6, .long 0), (5, .ref q_6), (4, .ref q_4), (3, .ref q_3), (2, .ref q_2), (1, .ref q_1), (0, .ref (a 200))]) hx hb dX15_order_102 hl (by decide) rfl (fun ls hl => ?_)
    refine lv_aload hx hb dX15_order_104 (lv_at hl 1 rfl) ?_
    have hPc : va_P D vwCl [(q_6, .inr (5, [.int 0, .ref (g 100), .int 0]))] _ := hP.sub (ws' := [(q_6, .inr (5, [.int 0, .ref (g 100), .int 0]))]) [7] rfl
    have hDc : va_D (fun q => z0 ≤ q) [(q_6, .inr (5, [.int 0, .ref (g 100), .int 0]))] := (hD.to hAz).pick (ws' := [(q_6, .inr (5, [.int 0, .ref (g 100), .int 0]))]) [7] (by decide) rfl
    have hFc := AnA (ws := [((a 200), f_m a g), ((a 201), .inr (5, [.int 0, .ref (g 100), .int 0])), ((a 206), .inr (5, [.int 0, .ref (g 100), .int 0]))]) hS.1
    refine va_callFi (va_runF (As := []) (rest := []) (hK.1.1 5 _ rfl).2 ⟨hx, hb, hml, hown, ht⟩ (k_Jx4a65c_size_8abf5 l D g z0 _ a q_6) (va_cwF 0 ht (gF w_356 w_358 w_359 w_323 w_357) rfl rfl rfl (hK.2.2.2.1 _ (List.mem_of_getElem? (i := 0) rfl)) (by decide +kernel) (le2 rfl rfl)) ⟨PP.blind, va_recv hK.1 hP (ci := 5) (q0 := 7) rfl rfl, PP.mk' hK hZ hz hAz hS hPc hDc⟩ rfl rfl hl.1 rfl (lv_room (Nat.le_of_ble_eq_true rfl)) dX15_order_106 (le2 rfl rfl)) hS (fun q _ h => hFc q h) hFc (fun r u t H locs ht1 hvm hw hB hz1 hk1 hS => ?_)
    obtain ⟨rfl, hw⟩ := hw
    have hP := ro1 hP hk1
    refine lv_aload_n hx hb dX15_order_111 rfl (lv_at hl 6 rfl) ?_
    refine va_get (D := D) (ci := 21) (v := .ref (a 206)) (C := RX15) (T := TX15) (N := 29) hx hb ht in_X15 hown hK.1 hP 3 rfl rfl 6 (by decide) (ht _ w_304) (fun _ h9 => h9) rfl dX15_order_112 ?_
    have hPc : va_P D vwCl [((a 206), .inr (5, [.int 0, .ref (g 100), .int 0]))] _ := hP.sub (ws' := [((a 206), .inr (5, [.int 0, .ref (g 100), .int 0]))]) [0] rfl
    have hDc : va_D (fun q => z0 ≤ q) [((a 206), .inr (5, [.int 0, .ref (g 100), .int 0]))] := (hD.to hAz).pick (ws' := [((a 206), .inr (5, [.int 0, .ref (g 100), .int 0]))]) [0] (by decide) rfl
    have hFc := AnA (ws := [((a 200), f_m a g), ((a 201), .inr (5, [.int 0, .ref (g 100), .int 0])), ((a 206), .inr (5, [.int 0, .ref (g 100), .int 0]))]) hS.1
    refine va_callFi (va_runF (As := []) (rest := [.int 0]) (hK.1.1 5 _ rfl).2 ⟨hx, hb, hml, hown, ht⟩ (k_Jx4a65c_size_8abf5 l D g z0 _ a (a 206)) (va_cwF 0 ht (gF w_356 w_358 w_359 w_323 w_357) rfl rfl rfl (hK.2.2.2.1 _ (List.mem_of_getElem? (i := 0) rfl)) (by decide +kernel) (le2 rfl rfl)) ⟨PP.blind, va_recv hK.1 hP (ci := 5) (q0 := 0) rfl rfl, PP.mk' hK hZ hz hAz hS hPc hDc⟩ rfl rfl hl.1 rfl (lv_room (Nat.le_of_ble_eq_true rfl)) dX15_order_115 (le2 rfl rfl)) hS (fun q _ h => hFc q h) hFc (fun r u t H locs ht1 hvm hw hB hz1 hk1 hS => ?_)
    obtain ⟨rfl, hw⟩ := hw
    have hP := ro1 hP hk1
    refine lv_icmp_ge (tgt := 314) hx hb dX15_order_120 (by decide) (fun c_7 => ?_) (fun c_7 => ?_)
    · refine lv_aload hx hb dX15_order_314 (lv_at hl 1 rfl) ?_
      have hP9 := hP.sub (ws' := [((a 206), .inr (5, [.int 0, .ref (g 100), .int 0])), ((a 200), f_m a g), ((a 201), .inr (5, [.int 0, .ref (g 100), .int 0])), (q_6, .inr (5, [.int 0, .ref (g 100), .int 0]))]) [0, 3, 4, 7] rfl
      have hD9 := hD.sub (ws' := [((a 206), .inr (5, [.int 0, .ref (g 100), .int 0])), ((a 200), f_m a g), ((a 201), .inr (5, [.int 0, .ref (g 100), .int 0])), (q_6, .inr (5, [.int 0, .ref (g 100), .int 0]))]) [0, 3, 4, 7] (by decide) rfl
      refine W.widen (k := 6) (n := 6) (Nat.le_of_ble_eq_true rfl) (Nat.le_of_ble_eq_true rfl) ?_
      exact W.aret (v := .ref q_6) hx hb hr (Or.inl ⟨_, rfl⟩) (Or.inr ⟨_, rfl⟩) (fun t ht9 hW9 => ⟨⟨(), _, rfl, trivial, ⟨q_6, rfl, (by rw [ht9]; exact hP9), hD9⟩⟩, hS.F ht9⟩) hS.2.2 dX15_order_316 hlocks
    · exact absurd c_7 (by decide)
  · exact absurd c_5 (by decide)
set_option maxHeartbeats 4000000 in
set_option maxRecDepth 100000 in
theorem k_X15_escapes (l : Launch) (D : va_G) (g : Nat → ClassId) (z0 sz : Nat) (a : Nat → Nat) (p0 : Int32) : Met l yX15_escapes (.code yX15_escapes cX15_escapes 9 (some .int) :: TG) (rmk 6 10 13 129) (va_Pc [.ref (a 200), .int p0] (PP D g z0 sz [((a 200), f_m a g), ((a 206), .inr (5, [.int 0, .ref (g 100), .int 0])), ((a 201), .inr (5, [.int 0, .ref (g 100), .int 0]))])) (va_Qi (fun (r : Int32) (u : Int32) => ((r = 0) ∧ (u = 1) ∧ ((p0 < 0) ∨ ((¬ p0 < 0) ∧ ((0 : Int32) < p0)))) ∨ ((r = 0) ∧ (u = 0) ∧ ((¬ p0 < 0) ∧ (¬ (0 : Int32) < p0) ∧ (p0 ≤ 0)))) (fun (u : Int32) (t : State) => va_P D vwCl [((a 200), .inr (21, [.int u, .ref (a 201), .ref (a 202), .ref (a 203), .ref (a 204), .ref (a 205), .ref (a 206), .int 0, .int 0, .int 0, .int 0, .ref (a 208), .ref (a 209), .ref (a 210), .ref (a 211), .ref (a 212), .int 4, .int 12, .int (-1), .int 0, .ref (g 200), .ref (a 213), .int 0, .int 97, .ref (a 214), .ref (a 215), .ref (a 207), .null, .int 0]))] t.heap ∧ va_D (va_A [((a 200), f_m a g), ((a 206), .inr (5, [.int 0, .ref (g 100), .int 0])), ((a 201), .inr (5, [.int 0, .ref (g 100), .int 0]))] sz) [((a 200), .inr (21, [.int u, .ref (a 201), .ref (a 202), .ref (a 203), .ref (a 204), .ref (a 205), .ref (a 206), .int 0, .int 0, .int 0, .int 0, .ref (a 208), .ref (a 209), .ref (a 210), .ref (a 211), .ref (a 212), .int 4, .int 12, .int (-1), .int 0, .ref (g 200), .ref (a 213), .int 0, .int 97, .ref (a 214), .ref (a 215), .ref (a 207), .null, .int 0]))]) (va_A [((a 200), f_m a g), ((a 206), .inr (5, [.int 0, .ref (g 100), .int 0])), ((a 201), .inr (5, [.int 0, .ref (g 100), .int 0]))] sz)) 10 13 (va_A [((a 200), f_m a g), ((a 206), .inr (5, [.int 0, .ref (g 100), .int 0])), ((a 201), .inr (5, [.int 0, .ref (g 100), .int 0]))] sz) := by
  refine met0 (cc := cX15_escapes) (n := 9) (by decide) (Nat.le_of_ble_eq_true rfl) ?_
  intro p e s m args below meth c hx hb hr hml hown ht hlocks hnm hP0 hD0 hK hZ hsz hz ls hl
  subst hsz
  have hA : ∀ q : Nat, s.heap.size ≤ q → va_A [((a 200), f_m a g), ((a 206), .inr (5, [.int 0, .ref (g 100), .int 0])), ((a 201), .inr (5, [.int 0, .ref (g 100), .int 0]))] s.heap.size q := Anw
  have hAz : ∀ q, va_A [((a 200), f_m a g), ((a 206), .inr (5, [.int 0, .ref (g 100), .int 0])), ((a 201), .inr (5, [.int 0, .ref (g 100), .int 0]))] s.heap.size q → z0 ≤ q := Awz hz hD0
  have hS : va_S (va_A [((a 200), f_m a g), ((a 206), .inr (5, [.int 0, .ref (g 100), .int 0])), ((a 201), .inr (5, [.int 0, .ref (g 100), .int 0]))] s.heap.size) s.heap s.heap [] := va_S.rf
  have hD : va_D (va_A [((a 200), f_m a g), ((a 206), .inr (5, [.int 0, .ref (g 100), .int 0])), ((a 201), .inr (5, [.int 0, .ref (g 100), .int 0]))] s.heap.size) [((a 200), f_m a g), ((a 206), .inr (5, [.int 0, .ref (g 100), .int 0])), ((a 201), .inr (5, [.int 0, .ref (g 100), .int 0]))] := hD0.self
  have hP : va_P D vwCl [((a 200), f_m a g), ((a 206), .inr (5, [.int 0, .ref (g 100), .int 0])), ((a 201), .inr (5, [.int 0, .ref (g 100), .int 0]))] s.heap := hP0
  have hl : lv_has ls 9 [(0, .ref (a 200)), (1, .int p0)] := hl
  refine lv_aload_n hx hb dX15_escapes_0 rfl (lv_at hl 0 rfl) ?_
  refine lv_iload_n hx hb dX15_escapes_1 rfl (lv_at hl 1 rfl) ?_
  refine lv_iconst (v := 0) hx hb dX15_escapes_2 (by decide) ?_
  refine lv_aload_n hx hb dX15_escapes_3 rfl (lv_at hl 0 rfl) ?_
  refine va_get (D := D) (ci := 21) (v := .ref (a 206)) (C := RX15) (T := TX15) (N := 29) hx hb ht in_X15 hown hK.1 hP 0 rfl rfl 6 (by decide) (ht _ w_304) (fun _ h9 => h9) rfl dX15_escapes_4 ?_
  have hPc : va_P D vwCl [((a 206), .inr (5, [.int 0, .ref (g 100), .int 0]))] _ := hP.sub (ws' := [((a 206), .inr (5, [.int 0, .ref (g 100), .int 0]))]) [1] rfl
  have hDc : va_D (fun q => z0 ≤ q) [((a 206), .inr (5, [.int 0, .ref (g 100), .int 0]))] := (hD.to hAz).pick (ws' := [((a 206), .inr (5, [.int 0, .ref (g 100), .int 0]))]) [1] (by decide) rfl
  have hFc := AnA (ws := [((a 200), f_m a g), ((a 206), .inr (5, [.int 0, .ref (g 100), .int 0])), ((a 201), .inr (5, [.int 0, .ref (g 100), .int 0]))]) hS.1
  refine va_callFi (va_runF (As := []) (rest := [.int 0, .int p0, .ref (a 200)]) (hK.1.1 5 _ rfl).2 ⟨hx, hb, hml, hown, ht⟩ (k_Jx4a65c_size_8abf5 l D g z0 _ a (a 206)) (va_cwF 0 ht (gF w_356 w_358 w_359 w_323 w_357) rfl rfl rfl (hK.2.2.2.1 _ (List.mem_of_getElem? (i := 0) rfl)) (by decide +kernel) (le2 rfl rfl)) ⟨PP.blind, va_recv hK.1 hP (ci := 5) (q0 := 1) rfl rfl, PP.mk' hK hZ hz hAz hS hPc hDc⟩ rfl rfl hl.1 rfl (lv_room (Nat.le_of_ble_eq_true rfl)) dX15_escapes_7 (le2 rfl rfl)) hS (fun q _ h => hFc q h) hFc (fun r u t H locs ht1 hvm hw hB hz1 hk1 hS => ?_)
  obtain ⟨rfl, hw⟩ := hw
  have hP := ro1 hP hk1
  have hPc : va_P D vwCl [] _ := hP.sub (ws' := []) [] rfl
  have hDc : va_D (fun q => z0 ≤ q) [] := (hD.to hAz).pick (ws' := []) [] (by decide) rfl
  have hFc := AnA (ws := [((a 200), f_m a g), ((a 206), .inr (5, [.int 0, .ref (g 100), .int 0])), ((a 201), .inr (5, [.int 0, .ref (g 100), .int 0]))]) hS.1
  refine va_calli (va_runS (As := [.int p0, .int 0, .int 0]) (rest := [.ref (a 200)]) ⟨hx, hb, hml, hown, ht⟩ (k_X15_isBetween_v8 l D g z0 _ a p0) (va_cwS 3 ht (gS w_369 w_371 w_334 w_370) rfl rfl rfl (by decide +kernel) (le2 rfl rfl)) ⟨PP.blind, PP.mk' hK hZ hz hAz hS hPc hDc⟩ rfl rfl hl.1 rfl (lv_room (Nat.le_of_ble_eq_true rfl)) dX15_escapes_12 (le2 rfl rfl)) hS (fun q _ h => hFc q h) hFc (fun r u t H locs ht1 hvm hw hB hz1 hk1 hS => ?_)
  rcases hw with hw | hw
  · obtain ⟨rfl, hw⟩ := hw
    rcases hw with hw | hw
    · have c_1 := hw
      have hP := ro1 hP hk1
      refine lv_if_eq (tgt := 22) hx hb dX15_escapes_15 (by decide) (fun c_2 => ?_) (fun c_2 => ?_)
      · refine lv_iconst (v := 1) hx hb dX15_escapes_22 (by decide) ?_
        have hPc : va_P D vwCl [((a 200), f_m a g)] _ := hP.sub (ws' := [((a 200), f_m a g)]) [0] rfl
        have hDc : va_D (fun q => z0 ≤ q) [((a 200), f_m a g)] := (hD.to hAz).pick (ws' := [((a 200), f_m a g)]) [0] (by decide) rfl
        have hFc := va_free (wc := [((a 200), f_m a g)]) hD hS hA [0] rfl
        refine va_calli (va_runV (As := [.int 1]) (rest := []) ⟨hx, hb, hml, hown, ht⟩ (k_X15_isWrong l D g z0 _ a) (cwV 1 ht (gV w_376 w_378 w_379 w_334 w_377) rfl rfl rfl (by decide +kernel) (le2 rfl rfl)) ⟨PP.blind, va_recv hK.1 hP (ci := 21) (q0 := 0) rfl rfl, PP.mk' hK hZ hz hAz hS hPc hDc⟩ rfl rfl hl.1 rfl (lv_room (Nat.le_of_ble_eq_true rfl)) dX15_escapes_23 (le2 rfl rfl)) hS (fun q _ h => hFc q h) hFc (fun r u t H locs ht1 hvm hw hB hz1 hk1 hS => ?_)
        obtain ⟨rfl, hw⟩ := hw
        obtain ⟨hP1, hD1⟩ := hB
        rw [ht1] at hP1
        obtain ⟨hP, hD⟩ := va_join (wr := [((a 206), .inr (5, [.int 0, .ref (g 100), .int 0])), ((a 201), .inr (5, [.int 0, .ref (g 100), .int 0]))]) (w1 := [((a 200), .inr (21, [.int 1, .ref (a 201), .ref (a 202), .ref (a 203), .ref (a 204), .ref (a 205), .ref (a 206), .int 0, .int 0, .int 0, .int 0, .ref (a 208), .ref (a 209), .ref (a 210), .ref (a 211), .ref (a 212), .int 4, .int 12, .int (-1), .int 0, .ref (g 200), .ref (a 213), .int 0, .int 97, .ref (a 214), .ref (a 215), .ref (a 207), .null, .int 0]))]) hP hD [0] [1, 2] rfl rfl (by decide) (by decide) hk1 hFc hP1 hD1
        have hP : va_P D vwCl [((a 206), .inr (5, [.int 0, .ref (g 100), .int 0])), ((a 201), .inr (5, [.int 0, .ref (g 100), .int 0])), ((a 200), .inr (21, [.int 1, .ref (a 201), .ref (a 202), .ref (a 203), .ref (a 204), .ref (a 205), .ref (a 206), .int 0, .int 0, .int 0, .int 0, .ref (a 208), .ref (a 209), .ref (a 210), .ref (a 211), .ref (a 212), .int 4, .int 12, .int (-1), .int 0, .ref (g 200), .ref (a 213), .int 0, .int 97, .ref (a 214), .ref (a 215), .ref (a 207), .null, .int 0]))] H := hP
        have hD : va_D (va_A [((a 200), f_m a g), ((a 206), .inr (5, [.int 0, .ref (g 100), .int 0])), ((a 201), .inr (5, [.int 0, .ref (g 100), .int 0]))] s.heap.size) [((a 206), .inr (5, [.int 0, .ref (g 100), .int 0])), ((a 201), .inr (5, [.int 0, .ref (g 100), .int 0])), ((a 200), .inr (21, [.int 1, .ref (a 201), .ref (a 202), .ref (a 203), .ref (a 204), .ref (a 205), .ref (a 206), .int 0, .int 0, .int 0, .int 0, .ref (a 208), .ref (a 209), .ref (a 210), .ref (a 211), .ref (a 212), .int 4, .int 12, .int (-1), .int 0, .ref (g 200), .ref (a 213), .int 0, .int 97, .ref (a 214), .ref (a 215), .ref (a 207), .null, .int 0]))] := hD
        refine lv_if_eq (tgt := 31) hx hb dX15_escapes_26 (by decide) (fun c_3 => ?_) (fun c_3 => ?_)
        · exact absurd c_3 (by decide)
        · refine lv_iconst (v := 0) hx hb dX15_escapes_29 (by decide) ?_
          have hP9 := hP.sub (ws' := [((a 200), .inr (21, [.int 1, .ref (a 201), .ref (a 202), .ref (a 203), .ref (a 204), .ref (a 205), .ref (a 206), .int 0, .int 0, .int 0, .int 0, .ref (a 208), .ref (a 209), .ref (a 210), .ref (a 211), .ref (a 212), .int 4, .int 12, .int (-1), .int 0, .ref (g 200), .ref (a 213), .int 0, .int 97, .ref (a 214), .ref (a 215), .ref (a 207), .null, .int 0]))]) [2] rfl
          have hD9 := hD.sub (ws' := [((a 200), .inr (21, [.int 1, .ref (a 201), .ref (a 202), .ref (a 203), .ref (a 204), .ref (a 205), .ref (a 206), .int 0, .int 0, .int 0, .int 0, .ref (a 208), .ref (a 209), .ref (a 210), .ref (a 211), .ref (a 212), .int 4, .int 12, .int (-1), .int 0, .ref (g 200), .ref (a 213), .int 0, .int 97, .ref (a 214), .ref (a 215), .ref (a 207), .null, .int 0]))]) [2] (by decide) rfl
          refine W.widen (k := 10) (n := 13) (Nat.le_of_ble_eq_true rfl) (Nat.le_of_ble_eq_true rfl) ?_
          exact W.iret (v := 0) hx hb hr (fun t ht9 hW9 => ⟨⟨0, 1, rfl, (Or.inl ⟨rfl, rfl, (Or.inl c_1)⟩), ⟨(by rw [ht9]; exact hP9), hD9⟩⟩, hS.F ht9⟩) hS.2.2 dX15_escapes_30 hlocks
      · exact absurd c_2 (by decide)
    · obtain ⟨c_4, c_5⟩ := hw
      have hP := ro1 hP hk1
      refine lv_if_eq (tgt := 22) hx hb dX15_escapes_15 (by decide) (fun c_6 => ?_) (fun c_6 => ?_)
      · refine lv_iconst (v := 1) hx hb dX15_escapes_22 (by decide) ?_
        have hPc : va_P D vwCl [((a 200), f_m a g)] _ := hP.sub (ws' := [((a 200), f_m a g)]) [0] rfl
        have hDc : va_D (fun q => z0 ≤ q) [((a 200), f_m a g)] := (hD.to hAz).pick (ws' := [((a 200), f_m a g)]) [0] (by decide) rfl
        have hFc := va_free (wc := [((a 200), f_m a g)]) hD hS hA [0] rfl
        refine va_calli (va_runV (As := [.int 1]) (rest := []) ⟨hx, hb, hml, hown, ht⟩ (k_X15_isWrong l D g z0 _ a) (cwV 1 ht (gV w_376 w_378 w_379 w_334 w_377) rfl rfl rfl (by decide +kernel) (le2 rfl rfl)) ⟨PP.blind, va_recv hK.1 hP (ci := 21) (q0 := 0) rfl rfl, PP.mk' hK hZ hz hAz hS hPc hDc⟩ rfl rfl hl.1 rfl (lv_room (Nat.le_of_ble_eq_true rfl)) dX15_escapes_23 (le2 rfl rfl)) hS (fun q _ h => hFc q h) hFc (fun r u t H locs ht1 hvm hw hB hz1 hk1 hS => ?_)
        obtain ⟨rfl, hw⟩ := hw
        obtain ⟨hP1, hD1⟩ := hB
        rw [ht1] at hP1
        obtain ⟨hP, hD⟩ := va_join (wr := [((a 206), .inr (5, [.int 0, .ref (g 100), .int 0])), ((a 201), .inr (5, [.int 0, .ref (g 100), .int 0]))]) (w1 := [((a 200), .inr (21, [.int 1, .ref (a 201), .ref (a 202), .ref (a 203), .ref (a 204), .ref (a 205), .ref (a 206), .int 0, .int 0, .int 0, .int 0, .ref (a 208), .ref (a 209), .ref (a 210), .ref (a 211), .ref (a 212), .int 4, .int 12, .int (-1), .int 0, .ref (g 200), .ref (a 213), .int 0, .int 97, .ref (a 214), .ref (a 215), .ref (a 207), .null, .int 0]))]) hP hD [0] [1, 2] rfl rfl (by decide) (by decide) hk1 hFc hP1 hD1
        have hP : va_P D vwCl [((a 206), .inr (5, [.int 0, .ref (g 100), .int 0])), ((a 201), .inr (5, [.int 0, .ref (g 100), .int 0])), ((a 200), .inr (21, [.int 1, .ref (a 201), .ref (a 202), .ref (a 203), .ref (a 204), .ref (a 205), .ref (a 206), .int 0, .int 0, .int 0, .int 0, .ref (a 208), .ref (a 209), .ref (a 210), .ref (a 211), .ref (a 212), .int 4, .int 12, .int (-1), .int 0, .ref (g 200), .ref (a 213), .int 0, .int 97, .ref (a 214), .ref (a 215), .ref (a 207), .null, .int 0]))] H := hP
        have hD : va_D (va_A [((a 200), f_m a g), ((a 206), .inr (5, [.int 0, .ref (g 100), .int 0])), ((a 201), .inr (5, [.int 0, .ref (g 100), .int 0]))] s.heap.size) [((a 206), .inr (5, [.int 0, .ref (g 100), .int 0])), ((a 201), .inr (5, [.int 0, .ref (g 100), .int 0])), ((a 200), .inr (21, [.int 1, .ref (a 201), .ref (a 202), .ref (a 203), .ref (a 204), .ref (a 205), .ref (a 206), .int 0, .int 0, .int 0, .int 0, .ref (a 208), .ref (a 209), .ref (a 210), .ref (a 211), .ref (a 212), .int 4, .int 12, .int (-1), .int 0, .ref (g 200), .ref (a 213), .int 0, .int 97, .ref (a 214), .ref (a 215), .ref (a 207), .null, .int 0]))] := hD
        refine lv_if_eq (tgt := 31) hx hb dX15_escapes_26 (by decide) (fun c_7 => ?_) (fun c_7 => ?_)
        · exact absurd c_7 (by decide)
        · refine lv_iconst (v := 0) hx hb dX15_escapes_29 (by decide) ?_
          have hP9 := hP.sub (ws' := [((a 200), .inr (21, [.int 1, .ref (a 201), .ref (a 202), .ref (a 203), .ref (a 204), .ref (a 205), .ref (a 206), .int 0, .int 0, .int 0, .int 0, .ref (a 208), .ref (a 209), .ref (a 210), .ref (a 211), .ref (a 212), .int 4, .int 12, .int (-1), .int 0, .ref (g 200), .ref (a 213), .int 0, .int 97, .ref (a 214), .ref (a 215), .ref (a 207), .null, .int 0]))]) [2] rfl
          have hD9 := hD.sub (ws' := [((a 200), .inr (21, [.int 1, .ref (a 201), .ref (a 202), .ref (a 203), .ref (a 204), .ref (a 205), .ref (a 206), .int 0, .int 0, .int 0, .int 0, .ref (a 208), .ref (a 209), .ref (a 210), .ref (a 211), .ref (a 212), .int 4, .int 12, .int (-1), .int 0, .ref (g 200), .ref (a 213), .int 0, .int 97, .ref (a 214), .ref (a 215), .ref (a 207), .null, .int 0]))]) [2] (by decide) rfl
          refine W.widen (k := 10) (n := 13) (Nat.le_of_ble_eq_true rfl) (Nat.le_of_ble_eq_true rfl) ?_
          exact W.iret (v := 0) hx hb hr (fun t ht9 hW9 => ⟨⟨0, 1, rfl, (Or.inl ⟨rfl, rfl, (Or.inr ⟨c_4, c_5⟩)⟩), ⟨(by rw [ht9]; exact hP9), hD9⟩⟩, hS.F ht9⟩) hS.2.2 dX15_escapes_30 hlocks
      · exact absurd c_6 (by decide)
  · obtain ⟨rfl, hw⟩ := hw
    obtain ⟨c_8, c_9⟩ := hw
    have hP := ro1 hP hk1
    refine lv_if_eq (tgt := 22) hx hb dX15_escapes_15 (by decide) (fun c_10 => ?_) (fun c_10 => ?_)
    · exact absurd c_10 (by decide)
    · refine lv_iconst (v := 0) hx hb dX15_escapes_18 (by decide) ?_
      refine lv_goto (tgt := 23) hx hb dX15_escapes_19 (by decide) ?_
      have hPc : va_P D vwCl [((a 200), f_m a g)] _ := hP.sub (ws' := [((a 200), f_m a g)]) [0] rfl
      have hDc : va_D (fun q => z0 ≤ q) [((a 200), f_m a g)] := (hD.to hAz).pick (ws' := [((a 200), f_m a g)]) [0] (by decide) rfl
      have hFc := va_free (wc := [((a 200), f_m a g)]) hD hS hA [0] rfl
      refine va_calli (va_runV (As := [.int 0]) (rest := []) ⟨hx, hb, hml, hown, ht⟩ (k_X15_isWrong_v1 l D g z0 _ a) (cwV 1 ht (gV w_376 w_378 w_379 w_334 w_377) rfl rfl rfl (by decide +kernel) (le2 rfl rfl)) ⟨PP.blind, va_recv hK.1 hP (ci := 21) (q0 := 0) rfl rfl, PP.mk' hK hZ hz hAz hS hPc hDc⟩ rfl rfl hl.1 rfl (lv_room (Nat.le_of_ble_eq_true rfl)) dX15_escapes_23 (le2 rfl rfl)) hS (fun q _ h => hFc q h) hFc (fun r u t H locs ht1 hvm hw hB hz1 hk1 hS => ?_)
      obtain ⟨rfl, hw⟩ := hw
      obtain ⟨hP1, hD1⟩ := hB
      rw [ht1] at hP1
      obtain ⟨hP, hD⟩ := va_join (wr := [((a 206), .inr (5, [.int 0, .ref (g 100), .int 0])), ((a 201), .inr (5, [.int 0, .ref (g 100), .int 0]))]) (w1 := [((a 200), f_m a g)]) hP hD [0] [1, 2] rfl rfl (by decide) (by decide) hk1 hFc hP1 hD1
      have hP : va_P D vwCl [((a 206), .inr (5, [.int 0, .ref (g 100), .int 0])), ((a 201), .inr (5, [.int 0, .ref (g 100), .int 0])), ((a 200), f_m a g)] H := hP
      have hD : va_D (va_A [((a 200), f_m a g), ((a 206), .inr (5, [.int 0, .ref (g 100), .int 0])), ((a 201), .inr (5, [.int 0, .ref (g 100), .int 0]))] s.heap.size) [((a 206), .inr (5, [.int 0, .ref (g 100), .int 0])), ((a 201), .inr (5, [.int 0, .ref (g 100), .int 0])), ((a 200), f_m a g)] := hD
      refine lv_if_eq (tgt := 31) hx hb dX15_escapes_26 (by decide) (fun c_11 => ?_) (fun c_11 => ?_)
      · refine lv_lconst (v := 0) hx hb dX15_escapes_31 (by decide) ?_
        refine lv_lstore_n (lv' := [(2, .long 0), (0, .ref (a 200)), (1, .int p0)]) hx hb dX15_escapes_32 rfl hl (by decide) rfl (fun ls hl => ?_)
        refine lv_aload_n hx hb dX15_escapes_33 rfl (lv_at hl 1 rfl) ?_
        have hPc : va_P D vwCl [((a 200), f_m a g), ((a 201), .inr (5, [.int 0, .ref (g 100), .int 0])), ((a 206), .inr (5, [.int 0, .ref (g 100), .int 0]))] _ := hP.sub (ws' := [((a 200), f_m a g), ((a 201), .inr (5, [.int 0, .ref (g 100), .int 0])), ((a 206), .inr (5, [.int 0, .ref (g 100), .int 0]))]) [2, 1, 0] rfl
        have hDc : va_D (fun q => z0 ≤ q) [((a 200), f_m a g), ((a 201), .inr (5, [.int 0, .ref (g 100), .int 0])), ((a 206), .inr (5, [.int 0, .ref (g 100), .int 0]))] := (hD.to hAz).pick (ws' := [((a 200), f_m a g), ((a 201), .inr (5, [.int 0, .ref (g 100), .int 0])), ((a 206), .inr (5, [.int 0, .ref (g 100), .int 0]))]) [2, 1, 0] (by decide) rfl
        have hFc := va_free (wc := [((a 200), f_m a g), ((a 201), .inr (5, [.int 0, .ref (g 100), .int 0])), ((a 206), .inr (5, [.int 0, .ref (g 100), .int 0]))]) hD hS hA [2, 1, 0] rfl
        refine va_callr (va_runV (As := []) (rest := []) ⟨hx, hb, hml, hown, ht⟩ (k_X15_order l D g z0 _ a) (cwV 0 ht (gV w_494 w_496 w_497 w_334 w_495) rfl rfl rfl (by decide +kernel) (le2 rfl rfl)) ⟨PP.blind, va_recv hK.1 hP (ci := 21) (q0 := 2) rfl rfl, PP.mk' hK hZ hz hAz hS hPc hDc⟩ rfl rfl hl.1 rfl (lv_room (Nat.le_of_ble_eq_true rfl)) dX15_escapes_34 (le2 rfl rfl)) hS (fun q _ h => hFc q h) hFc (fun u ra t H locs ht1 hvm hw hB hz1 hk1 hS => ?_)
        obtain ⟨q_12, hr9, hP1, hD1⟩ := hB
        rw [ht1] at hP1
        obtain ⟨hP, hD⟩ := va_join (wr := []) (w1 := [((a 206), .inr (5, [.int 0, .ref (g 100), .int 0])), ((a 200), f_m a g), ((a 201), .inr (5, [.int 0, .ref (g 100), .int 0])), (q_12, .inr (5, [.int 0, .ref (g 100), .int 0]))]) hP hD [2, 1, 0] [] rfl rfl (by decide) (by decide) hk1 hFc hP1 hD1
        subst hr9
        have hP : va_P D vwCl [((a 206), .inr (5, [.int 0, .ref (g 100), .int 0])), ((a 200), f_m a g), ((a 201), .inr (5, [.int 0, .ref (g 100), .int 0])), (q_12, .inr (5, [.int 0, .ref (g 100), .int 0]))] H := hP
        have hD : va_D (va_A [((a 200), f_m a g), ((a 206), .inr (5, [.int 0, .ref (g 100), .int 0])), ((a 201), .inr (5, [.int 0, .ref (g 100), .int 0]))] s.heap.size) [((a 206), .inr (5, [.int 0, .ref (g 100), .int 0])), ((a 200), f_m a g), ((a 201), .inr (5, [.int 0, .ref (g 100), .int 0])), (q_12, .inr (5, [.int 0, .ref (g 100), .int 0]))] := hD
        refine lv_astore (lv' := [(4, .ref q_12), (2, .long 0), (0, .ref (a 200)), (1, .int p0)]) hx hb dX15_escapes_37 hl (by decide) rfl (fun ls hl => ?_)
        refine lv_iconst (v := 0) hx hb dX15_escapes_39 (by decide) ?_
        refine lv_istore (lv' := [(5, .int 0), (4, .ref q_12), (2, .long 0), (0, .ref (a 200)), (1, .int p0)]) hx hb dX15_escapes_40 hl (by decide) rfl (fun ls hl => ?_)
        refine lv_iload hx hb dX15_escapes_42 (lv_at hl 0 rfl) ?_
        refine lv_iload_n hx hb dX15_escapes_44 rfl (lv_at hl 4 rfl) ?_
        refine lv_icmp_ge (tgt := 74) hx hb dX15_escapes_45 (by decide) (fun c_13 => ?_) (fun c_13 => ?_)
        · refine lv_iconst (v := 0) hx hb dX15_escapes_74 (by decide) ?_
          refine lv_istore (lv' := [(5, .int 0), (4, .ref q_12), (2, .long 0), (0, .ref (a 200)), (1, .int p0)]) hx hb dX15_escapes_75 hl (by decide) rfl (fun ls hl => ?_)
          refine lv_aload_n hx hb dX15_escapes_77 rfl (lv_at hl 3 rfl) ?_
          have hPc : va_P D vwCl [((a 200), f_m a g), ((a 201), .inr (5, [.int 0, .ref (g 100), .int 0]))] _ := hP.sub (ws' := [((a 200), f_m a g), ((a 201), .inr (5, [.int 0, .ref (g 100), .int 0]))]) [1, 2] rfl
          have hDc : va_D (fun q => z0 ≤ q) [((a 200), f_m a g), ((a 201), .inr (5, [.int 0, .ref (g 100), .int 0]))] := (hD.to hAz).pick (ws' := [((a 200), f_m a g), ((a 201), .inr (5, [.int 0, .ref (g 100), .int 0]))]) [1, 2] (by decide) rfl
          have hFc := va_free (wc := [((a 200), f_m a g), ((a 201), .inr (5, [.int 0, .ref (g 100), .int 0]))]) hD hS hA [1, 2] rfl
          refine va_callr (va_runV (As := []) (rest := []) ⟨hx, hb, hml, hown, ht⟩ (k_X15_firsts l D g z0 _ a) (cwV 0 ht (gV w_360 w_362 w_363 w_334 w_361) rfl rfl rfl (by decide +kernel) (le2 rfl rfl)) ⟨PP.blind, va_recv hK.1 hP (ci := 21) (q0 := 1) rfl rfl, PP.mk' hK hZ hz hAz hS hPc hDc⟩ rfl rfl hl.1 rfl (lv_room (Nat.le_of_ble_eq_true rfl)) dX15_escapes_78 (le2 rfl rfl)) hS (fun q _ h => hFc q h) hFc (fun u ra t H locs ht1 hvm hw hB hz1 hk1 hS => ?_)
          obtain ⟨q_14, hr9, hP1, hD1⟩ := hB
          rw [ht1] at hP1
          obtain ⟨hP, hD⟩ := va_join (wr := [((a 206), .inr (5, [.int 0, .ref (g 100), .int 0])), (q_12, .inr (5, [.int 0, .ref (g 100), .int 0]))]) (w1 := [((a 200), f_m a g), ((a 201), .inr (5, [.int 0, .ref (g 100), .int 0])), (q_14, .inl (g 0, 0, .inl (fun _ => 0)))]) hP hD [1, 2] [0, 3] rfl rfl (by decide) (by decide) hk1 hFc hP1 hD1
          subst hr9
          have hP : va_P D vwCl [((a 206), .inr (5, [.int 0, .ref (g 100), .int 0])), (q_12, .inr (5, [.int 0, .ref (g 100), .int 0])), ((a 200), f_m a g), ((a 201), .inr (5, [.int 0, .ref (g 100), .int 0])), (q_14, .inl (g 0, 0, .inl (fun _ => 0)))] H := hP
          have hD : va_D (va_A [((a 200), f_m a g), ((a 206), .inr (5, [.int 0, .ref (g 100), .int 0])), ((a 201), .inr (5, [.int 0, .ref (g 100), .int 0]))] s.heap.size) [((a 206), .inr (5, [.int 0, .ref (g 100), .int 0])), (q_12, .inr (5, [.int 0, .ref (g 100), .int 0])), ((a 200), f_m a g), ((a 201), .inr (5, [.int 0, .ref (g 100), .int 0])), (q_14, .inl (g 0, 0, .inl (fun _ => 0)))] := hD
          refine lv_astore (lv' := [(6, .ref q_14), (5, .int 0), (4, .ref q_12), (2, .long 0), (0, .ref (a 200)), (1, .int p0)]) hx hb dX15_escapes_81 hl (by decide) rfl (fun ls hl => ?_)
          refine lv_aload_n hx hb dX15_escapes_83 rfl (lv_at hl 4 rfl) ?_
          have hPc : va_P D vwCl [((a 200), f_m a g), ((a 201), .inr (5, [.int 0, .ref (g 100), .int 0]))] _ := hP.sub (ws' := [((a 200), f_m a g), ((a 201), .inr (5, [.int 0, .ref (g 100), .int 0]))]) [2, 3] rfl
          have hDc : va_D (fun q => z0 ≤ q) [((a 200), f_m a g), ((a 201), .inr (5, [.int 0, .ref (g 100), .int 0]))] := (hD.to hAz).pick (ws' := [((a 200), f_m a g), ((a 201), .inr (5, [.int 0, .ref (g 100), .int 0]))]) [2, 3] (by decide) rfl
          have hFc := va_free (wc := [((a 200), f_m a g), ((a 201), .inr (5, [.int 0, .ref (g 100), .int 0]))]) hD hS hA [2, 3] rfl
          refine va_callr (va_runV (As := []) (rest := []) ⟨hx, hb, hml, hown, ht⟩ (k_X15_allClasses l D g z0 _ a) (cwV 0 ht (gV w_364 w_366 w_367 w_334 w_365) rfl rfl rfl (by decide +kernel) (le2 rfl rfl)) ⟨PP.blind, va_recv hK.1 hP (ci := 21) (q0 := 2) rfl rfl, PP.mk' hK hZ hz hAz hS hPc hDc⟩ rfl rfl hl.1 rfl (lv_room (Nat.le_of_ble_eq_true rfl)) dX15_escapes_84 (le2 rfl rfl)) hS (fun q _ h => hFc q h) hFc (fun u ra t H locs ht1 hvm hw hB hz1 hk1 hS => ?_)
          obtain ⟨q_15, hr9, hP1, hD1⟩ := hB
          rw [ht1] at hP1
          obtain ⟨hP, hD⟩ := va_join (wr := [((a 206), .inr (5, [.int 0, .ref (g 100), .int 0])), (q_12, .inr (5, [.int 0, .ref (g 100), .int 0])), (q_14, .inl (g 0, 0, .inl (fun _ => 0)))]) (w1 := [(q_15, .inr (5, [.int 0, .ref (g 100), .int 0])), ((a 200), f_m a g), ((a 201), .inr (5, [.int 0, .ref (g 100), .int 0]))]) hP hD [2, 3] [0, 1, 4] rfl rfl (by decide) (by decide) hk1 hFc hP1 hD1
          subst hr9
          have hP : va_P D vwCl [((a 206), .inr (5, [.int 0, .ref (g 100), .int 0])), (q_12, .inr (5, [.int 0, .ref (g 100), .int 0])), (q_14, .inl (g 0, 0, .inl (fun _ => 0))), (q_15, .inr (5, [.int 0, .ref (g 100), .int 0])), ((a 200), f_m a g), ((a 201), .inr (5, [.int 0, .ref (g 100), .int 0]))] H := hP
          have hD : va_D (va_A [((a 200), f_m a g), ((a 206), .inr (5, [.int 0, .ref (g 100), .int 0])), ((a 201), .inr (5, [.int 0, .ref (g 100), .int 0]))] s.heap.size) [((a 206), .inr (5, [.int 0, .ref (g 100), .int 0])), (q_12, .inr (5, [.int 0, .ref (g 100), .int 0])), (q_14, .inl (g 0, 0, .inl (fun _ => 0))), (q_15, .inr (5, [.int 0, .ref (g 100), .int 0])), ((a 200), f_m a g), ((a 201), .inr (5, [.int 0, .ref (g 100), .int 0]))] := hD
          have hPc : va_P D vwCl [(q_15, .inr (5, [.int 0, .ref (g 100), .int 0]))] _ := hP.sub (ws' := [(q_15, .inr (5, [.int 0, .ref (g 100), .int 0]))]) [3] rfl
          have hDc : va_D (fun q => z0 ≤ q) [(q_15, .inr (5, [.int 0, .ref (g 100), .int 0]))] := (hD.to hAz).pick (ws' := [(q_15, .inr (5, [.int 0, .ref (g 100), .int 0]))]) [3] (by decide) rfl
          have hFc := va_free (wc := [(q_15, .inr (5, [.int 0, .ref (g 100), .int 0]))]) hD hS hA [3] rfl
          refine va_callFr (va_runF (As := []) (rest := []) (hK.1.1 5 _ rfl).2 ⟨hx, hb, hml, hown, ht⟩ (k_Jx4a65c_iterator_32c93 l D g z0 _ a q_15) (va_cwF 0 ht (gF w_319 w_321 w_322 w_323 w_320) rfl rfl rfl (hK.2.2.2.1 _ (List.mem_of_getElem? (i := 3) rfl)) (by decide +kernel) (le2 rfl rfl)) ⟨PP.blind, va_recv hK.1 hP (ci := 5) (q0 := 3) rfl rfl, PP.mk' hK hZ hz hAz hS hPc hDc⟩ rfl rfl hl.1 rfl (lv_room (Nat.le_of_ble_eq_true rfl)) dX15_escapes_87 (le2 rfl rfl)) hS (fun q _ h => hFc q h) hFc (fun u ra t H locs ht1 hvm hw hB hz1 hk1 hS => ?_)
          obtain ⟨q_16, hr9, hP1, hD1⟩ := hB
          rw [ht1] at hP1
          obtain ⟨hP, hD⟩ := va_join (wr := [((a 206), .inr (5, [.int 0, .ref (g 100), .int 0])), (q_12, .inr (5, [.int 0, .ref (g 100), .int 0])), (q_14, .inl (g 0, 0, .inl (fun _ => 0))), ((a 200), f_m a g), ((a 201), .inr (5, [.int 0, .ref (g 100), .int 0]))]) (w1 := [(q_16, .inr (4, [.int 0, .int (-1), .int 0, .ref q_15])), (q_15, .inr (5, [.int 0, .ref (g 100), .int 0]))]) hP hD [3] [0, 1, 2, 4, 5] rfl rfl (by decide) (by decide) hk1 hFc hP1 hD1
          subst hr9
          have hP : va_P D vwCl [((a 206), .inr (5, [.int 0, .ref (g 100), .int 0])), (q_12, .inr (5, [.int 0, .ref (g 100), .int 0])), (q_14, .inl (g 0, 0, .inl (fun _ => 0))), ((a 200), f_m a g), ((a 201), .inr (5, [.int 0, .ref (g 100), .int 0])), (q_16, .inr (4, [.int 0, .int (-1), .int 0, .ref q_15])), (q_15, .inr (5, [.int 0, .ref (g 100), .int 0]))] H := hP
          have hD : va_D (va_A [((a 200), f_m a g), ((a 206), .inr (5, [.int 0, .ref (g 100), .int 0])), ((a 201), .inr (5, [.int 0, .ref (g 100), .int 0]))] s.heap.size) [((a 206), .inr (5, [.int 0, .ref (g 100), .int 0])), (q_12, .inr (5, [.int 0, .ref (g 100), .int 0])), (q_14, .inl (g 0, 0, .inl (fun _ => 0))), ((a 200), f_m a g), ((a 201), .inr (5, [.int 0, .ref (g 100), .int 0])), (q_16, .inr (4, [.int 0, .int (-1), .int 0, .ref q_15])), (q_15, .inr (5, [.int 0, .ref (g 100), .int 0]))] := hD
          refine lv_astore (lv' := [(7, .ref q_16), (6, .ref q_14), (5, .int 0), (4, .ref q_12), (2, .long 0), (0, .ref (a 200)), (1, .int p0)]) hx hb dX15_escapes_92 hl (by decide) rfl (fun ls hl => ?_)
          refine lv_aload hx hb dX15_escapes_94 (lv_at hl 0 rfl) ?_
          have hPc : va_P D vwCl [(q_16, .inr (4, [.int 0, .int (-1), .int 0, .ref q_15])), (q_15, .inr (5, [.int 0, .ref (g 100), .int 0]))] _ := hP.sub (ws' := [(q_16, .inr (4, [.int 0, .int (-1), .int 0, .ref q_15])), (q_15, .inr (5, [.int 0, .ref (g 100), .int 0]))]) [5, 6] rfl
          have hDc : va_D (fun q => z0 ≤ q) [(q_16, .inr (4, [.int 0, .int (-1), .int 0, .ref q_15])), (q_15, .inr (5, [.int 0, .ref (g 100), .int 0]))] := (hD.to hAz).pick (ws' := [(q_16, .inr (4, [.int 0, .int (-1), .int 0, .ref q_15])), (q_15, .inr (5, [.int 0, .ref (g 100), .int 0]))]) [5, 6] (by decide) rfl
          have hFc := AnA (ws := [((a 200), f_m a g), ((a 206), .inr (5, [.int 0, .ref (g 100), .int 0])), ((a 201), .inr (5, [.int 0, .ref (g 100), .int 0]))]) hS.1
          refine va_callFi (va_runF (As := []) (rest := []) (hK.1.1 4 _ rfl).2 ⟨hx, hb, hml, hown, ht⟩ (k_Jx35411_hasNext_aae02 l D g z0 _ a q_16 q_15) (va_cwF 0 ht (gF w_326 w_328 w_329 w_307 w_327) rfl rfl rfl (hK.2.2.2.1 _ (List.mem_of_getElem? (i := 4) rfl)) (by decide +kernel) (le2 rfl rfl)) ⟨PP.blind, va_recv hK.1 hP (ci := 4) (q0 := 5) rfl rfl, PP.mk' hK hZ hz hAz hS hPc hDc⟩ rfl rfl hl.1 rfl (lv_room (Nat.le_of_ble_eq_true rfl)) dX15_escapes_96 (le2 rfl rfl)) hS (fun q _ h => hFc q h) hFc (fun r u t H locs ht1 hvm hw hB hz1 hk1 hS => ?_)
          obtain ⟨rfl, hw⟩ := hw
          have hP := ro1 hP hk1
          refine lv_if_eq (tgt := 154) hx hb dX15_escapes_101 (by decide) (fun c_17 => ?_) (fun c_17 => ?_)
          · refine lv_iload hx hb dX15_escapes_154 (lv_at hl 2 rfl) ?_
            have hP9 := hP.sub (ws' := [((a 200), f_m a g)]) [3] rfl
            have hD9 := hD.sub (ws' := [((a 200), f_m a g)]) [3] (by decide) rfl
            refine W.widen (k := 10) (n := 13) (Nat.le_of_ble_eq_true rfl) (Nat.le_of_ble_eq_true rfl) ?_
            exact W.iret (v := 0) hx hb hr (fun t ht9 hW9 => ⟨⟨0, 0, rfl, (Or.inr ⟨rfl, rfl, ⟨c_8, c_9, c_13⟩⟩), ⟨(by rw [ht9]; exact hP9), hD9⟩⟩, hS.F ht9⟩) hS.2.2 dX15_escapes_156 hlocks
          · exact absurd c_17 (by decide)
        · exact absurd (Int.le_trans (lo_nle c_13) (up_nlt c_9)) (by decide)
      · exact absurd c_11 (by decide)
set_option maxHeartbeats 4000000 in
set_option maxRecDepth 100000 in
theorem k_X15_isPattern (l : Launch) (D : va_G) (g : Nat → ClassId) (z0 sz : Nat) (a : Nat → Nat) (p0 : Int32) : Met l yX15_isPattern (.code yX15_isPattern cX15_isPattern 2 (some .boolean) :: TG) (rmk 1 0 0 22) (va_Pc [.ref (a 200), .int p0] (PP D g z0 sz [((a 200), f_m a g), ((a 206), .inr (5, [.int 0, .ref (g 100), .int 0]))])) (va_Qi (fun (r : Int32) (u : Unit) => (r = 0) ∧ True) (fun (_ : Unit) (_ : State) => True) (va_A [] sz)) 0 0 (va_A [] sz) := by
  refine met0 (cc := cX15_isPattern) (n := 2) (by decide) (Nat.le_of_ble_eq_true rfl) ?_
  intro p e s m args below meth c hx hb hr hml hown ht hlocks hnm hP0 hD0 hK hZ hsz hz ls hl
  subst hsz
  have hA : ∀ q : Nat, s.heap.size ≤ q → va_A [] s.heap.size q := Anw
  have hAz : ∀ q, va_A [] s.heap.size q → z0 ≤ q := A0z hz
  have hS : va_S (va_A [] s.heap.size) s.heap s.heap [] := va_S.rf
  have hl : lv_has ls 2 [(0, .ref (a 200)), (1, .int p0)] := hl
  refine lv_iload_n hx hb dX15_isPattern_0 rfl (lv_at hl 1 rfl) ?_
  refine lv_iconst (v := 0) hx hb dX15_isPattern_1 (by decide) ?_
  refine lv_aload_n hx hb dX15_isPattern_2 rfl (lv_at hl 0 rfl) ?_
  refine va_get (D := D) (ci := 21) (v := .ref (a 206)) (C := RX15) (T := TX15) (N := 29) hx hb ht in_X15 hown hK.1 (ro0 hP0 hS) 0 rfl rfl 6 (by decide) (ht _ w_304) (fun _ h9 => h9) rfl dX15_isPattern_3 ?_
  have hPc : va_P D vwCl [((a 206), .inr (5, [.int 0, .ref (g 100), .int 0]))] _ := (ro0 hP0 hS).sub (ws' := [((a 206), .inr (5, [.int 0, .ref (g 100), .int 0]))]) [1] rfl
  have hDc : va_D (fun q => z0 ≤ q) [((a 206), .inr (5, [.int 0, .ref (g 100), .int 0]))] := hD0.pick (ws' := [((a 206), .inr (5, [.int 0, .ref (g 100), .int 0]))]) [1] (by decide) rfl
  have hFc := AnA (ws := []) hS.1
  refine va_callFi (va_runF (As := []) (rest := [.int 0, .int p0]) (hK.1.1 5 _ rfl).2 ⟨hx, hb, hml, hown, ht⟩ (k_Jx4a65c_size_8abf5 l D g z0 _ a (a 206)) (va_cwF 0 ht (gF w_356 w_358 w_359 w_323 w_357) rfl rfl rfl (hK.2.2.2.1 _ (List.mem_of_getElem? (i := 0) rfl)) (by decide +kernel) (le2 rfl rfl)) ⟨PP.blind, va_recv hK.1 (ro0 hP0 hS) (ci := 5) (q0 := 1) rfl rfl, PP.mk' hK hZ hz hAz hS hPc hDc⟩ rfl rfl hl.1 rfl (lv_room (Nat.le_of_ble_eq_true rfl)) dX15_isPattern_6 (le2 rfl rfl)) hS (fun q _ h => hFc q h) hFc (fun r u t H locs ht1 hvm hw hB hz1 hk1 hS => ?_)
  obtain ⟨rfl, hw⟩ := hw
  refine lv_iconst (v := 1) hx hb dX15_isPattern_11 (by decide) ?_
  refine lv_isub hx hb dX15_isPattern_12 ?_
  refine r_topi (v := (-1)) (by decide) ?_
  have hPc : va_P D vwCl [] _ := (ro0 hP0 hS).sub (ws' := []) [] rfl
  have hDc : va_D (fun q => z0 ≤ q) [] := hD0.pick (ws' := []) [] (by decide) rfl
  have hFc := AnA (ws := []) hS.1
  refine va_calli (va_runS (As := [.int p0, .int 0, .int (-1)]) (rest := []) ⟨hx, hb, hml, hown, ht⟩ (k_X15_isBetween l D g z0 _ a p0) (va_cwS 3 ht (gS w_369 w_371 w_334 w_370) rfl rfl rfl (by decide +kernel) (le2 rfl rfl)) ⟨PP.blind, PP.mk' hK hZ hz hAz hS hPc hDc⟩ rfl rfl hl.1 rfl (lv_room (Nat.le_of_ble_eq_true rfl)) dX15_isPattern_13 (le2 rfl rfl)) hS (fun q _ h => hFc q h) hFc (fun r u t H locs ht1 hvm hw hB hz1 hk1 hS => ?_)
  obtain ⟨rfl, hw⟩ := hw
  refine W.widen (k := 0) (n := 0) (Nat.le_of_ble_eq_true rfl) (Nat.le_of_ble_eq_true rfl) ?_
  exact W.zret (v := 0) hx hb hr rfl (fun t ht9 hW9 => ⟨⟨0, (), rfl, ⟨rfl, trivial⟩, trivial⟩, hS.F ht9⟩) hS.2.2 dX15_isPattern_16 hlocks
set_option maxHeartbeats 4000000 in
set_option maxRecDepth 100000 in
theorem k_X15_fails (l : Launch) (D : va_G) (g : Nat → ClassId) (z0 sz : Nat) (a : Nat → Nat) (p0 : Int32) : Met l yX15_fails (.code yX15_fails cX15_fails 2 (some .long) :: TG) (rmk 2 0 0 43) (va_Pc [.ref (a 200), .int p0] (PP D g z0 sz [((a 200), f_m a g), ((a 206), .inr (5, [.int 0, .ref (g 100), .int 0]))])) (va_Ql (fun (r : Int64) (u : Unit) => (r = 0) ∧ True) (fun (u : Unit) (t : State) => va_P D vwCl [((a 200), .inr (21, [.int 1, .ref (a 201), .ref (a 202), .ref (a 203), .ref (a 204), .ref (a 205), .ref (a 206), .int 0, .int 0, .int 0, .int 0, .ref (a 208), .ref (a 209), .ref (a 210), .ref (a 211), .ref (a 212), .int 4, .int 12, .int (-1), .int 0, .ref (g 200), .ref (a 213), .int 0, .int 97, .ref (a 214), .ref (a 215), .ref (a 207), .null, .int 0]))] t.heap ∧ va_D (va_A [((a 200), f_m a g), ((a 206), .inr (5, [.int 0, .ref (g 100), .int 0]))] sz) [((a 200), .inr (21, [.int 1, .ref (a 201), .ref (a 202), .ref (a 203), .ref (a 204), .ref (a 205), .ref (a 206), .int 0, .int 0, .int 0, .int 0, .ref (a 208), .ref (a 209), .ref (a 210), .ref (a 211), .ref (a 212), .int 4, .int 12, .int (-1), .int 0, .ref (g 200), .ref (a 213), .int 0, .int 97, .ref (a 214), .ref (a 215), .ref (a 207), .null, .int 0]))]) (va_A [((a 200), f_m a g), ((a 206), .inr (5, [.int 0, .ref (g 100), .int 0]))] sz)) 0 0 (va_A [((a 200), f_m a g), ((a 206), .inr (5, [.int 0, .ref (g 100), .int 0]))] sz) := by
  refine met0 (cc := cX15_fails) (n := 2) (by decide) (Nat.le_of_ble_eq_true rfl) ?_
  intro p e s m args below meth c hx hb hr hml hown ht hlocks hnm hP0 hD0 hK hZ hsz hz ls hl
  subst hsz
  have hA : ∀ q : Nat, s.heap.size ≤ q → va_A [((a 200), f_m a g), ((a 206), .inr (5, [.int 0, .ref (g 100), .int 0]))] s.heap.size q := Anw
  have hAz : ∀ q, va_A [((a 200), f_m a g), ((a 206), .inr (5, [.int 0, .ref (g 100), .int 0]))] s.heap.size q → z0 ≤ q := Awz hz hD0
  have hS : va_S (va_A [((a 200), f_m a g), ((a 206), .inr (5, [.int 0, .ref (g 100), .int 0]))] s.heap.size) s.heap s.heap [] := va_S.rf
  have hD : va_D (va_A [((a 200), f_m a g), ((a 206), .inr (5, [.int 0, .ref (g 100), .int 0]))] s.heap.size) [((a 200), f_m a g), ((a 206), .inr (5, [.int 0, .ref (g 100), .int 0]))] := hD0.self
  have hP : va_P D vwCl [((a 200), f_m a g), ((a 206), .inr (5, [.int 0, .ref (g 100), .int 0]))] s.heap := hP0
  have hl : lv_has ls 2 [(0, .ref (a 200)), (1, .int p0)] := hl
  refine lv_aload_n hx hb dX15_fails_0 rfl (lv_at hl 0 rfl) ?_
  refine lv_aload_n hx hb dX15_fails_1 rfl (lv_at hl 0 rfl) ?_
  refine lv_iload_n hx hb dX15_fails_2 rfl (lv_at hl 1 rfl) ?_
  have hPc : va_P D vwCl [((a 200), f_m a g), ((a 206), .inr (5, [.int 0, .ref (g 100), .int 0]))] _ := hP.sub (ws' := [((a 200), f_m a g), ((a 206), .inr (5, [.int 0, .ref (g 100), .int 0]))]) [0, 1] rfl
  have hDc : va_D (fun q => z0 ≤ q) [((a 200), f_m a g), ((a 206), .inr (5, [.int 0, .ref (g 100), .int 0]))] := (hD.to hAz).pick (ws' := [((a 200), f_m a g), ((a 206), .inr (5, [.int 0, .ref (g 100), .int 0]))]) [0, 1] (by decide) rfl
  have hFc := AnA (ws := [((a 200), f_m a g), ((a 206), .inr (5, [.int 0, .ref (g 100), .int 0]))]) hS.1
  refine va_calli (va_runV (As := [.int p0]) (rest := [.ref (a 200)]) ⟨hx, hb, hml, hown, ht⟩ (k_X15_isPattern l D g z0 _ a p0) (cwV 1 ht (gV w_498 w_500 w_501 w_334 w_499) rfl rfl rfl (by decide +kernel) (le2 rfl rfl)) ⟨PP.blind, va_recv hK.1 hP (ci := 21) (q0 := 0) rfl rfl, PP.mk' hK hZ hz hAz hS hPc hDc⟩ rfl rfl hl.1 rfl (lv_room (Nat.le_of_ble_eq_true rfl)) dX15_fails_3 (le2 rfl rfl)) hS (fun q _ h => hFc q h) hFc (fun r u t H locs ht1 hvm hw hB hz1 hk1 hS => ?_)
  obtain ⟨rfl, hw⟩ := hw
  have hP := ro1 hP hk1
  refine lv_if_eq (tgt := 13) hx hb dX15_fails_6 (by decide) (fun c_1 => ?_) (fun c_1 => ?_)
  · refine lv_iconst (v := 1) hx hb dX15_fails_13 (by decide) ?_
    have hPc : va_P D vwCl [((a 200), f_m a g)] _ := hP.sub (ws' := [((a 200), f_m a g)]) [0] rfl
    have hDc : va_D (fun q => z0 ≤ q) [((a 200), f_m a g)] := (hD.to hAz).pick (ws' := [((a 200), f_m a g)]) [0] (by decide) rfl
    have hFc := va_free (wc := [((a 200), f_m a g)]) hD hS hA [0] rfl
    refine va_calli (va_runV (As := [.int 1]) (rest := []) ⟨hx, hb, hml, hown, ht⟩ (k_X15_isWrong l D g z0 _ a) (cwV 1 ht (gV w_376 w_378 w_379 w_334 w_377) rfl rfl rfl (by decide +kernel) (le2 rfl rfl)) ⟨PP.blind, va_recv hK.1 hP (ci := 21) (q0 := 0) rfl rfl, PP.mk' hK hZ hz hAz hS hPc hDc⟩ rfl rfl hl.1 rfl (lv_room (Nat.le_of_ble_eq_true rfl)) dX15_fails_14 (le2 rfl rfl)) hS (fun q _ h => hFc q h) hFc (fun r u t H locs ht1 hvm hw hB hz1 hk1 hS => ?_)
    obtain ⟨rfl, hw⟩ := hw
    obtain ⟨hP1, hD1⟩ := hB
    rw [ht1] at hP1
    obtain ⟨hP, hD⟩ := va_join (wr := [((a 206), .inr (5, [.int 0, .ref (g 100), .int 0]))]) (w1 := [((a 200), .inr (21, [.int 1, .ref (a 201), .ref (a 202), .ref (a 203), .ref (a 204), .ref (a 205), .ref (a 206), .int 0, .int 0, .int 0, .int 0, .ref (a 208), .ref (a 209), .ref (a 210), .ref (a 211), .ref (a 212), .int 4, .int 12, .int (-1), .int 0, .ref (g 200), .ref (a 213), .int 0, .int 97, .ref (a 214), .ref (a 215), .ref (a 207), .null, .int 0]))]) hP hD [0] [1] rfl rfl (by decide) (by decide) hk1 hFc hP1 hD1
    have hP : va_P D vwCl [((a 206), .inr (5, [.int 0, .ref (g 100), .int 0])), ((a 200), .inr (21, [.int 1, .ref (a 201), .ref (a 202), .ref (a 203), .ref (a 204), .ref (a 205), .ref (a 206), .int 0, .int 0, .int 0, .int 0, .ref (a 208), .ref (a 209), .ref (a 210), .ref (a 211), .ref (a 212), .int 4, .int 12, .int (-1), .int 0, .ref (g 200), .ref (a 213), .int 0, .int 97, .ref (a 214), .ref (a 215), .ref (a 207), .null, .int 0]))] H := hP
    have hD : va_D (va_A [((a 200), f_m a g), ((a 206), .inr (5, [.int 0, .ref (g 100), .int 0]))] s.heap.size) [((a 206), .inr (5, [.int 0, .ref (g 100), .int 0])), ((a 200), .inr (21, [.int 1, .ref (a 201), .ref (a 202), .ref (a 203), .ref (a 204), .ref (a 205), .ref (a 206), .int 0, .int 0, .int 0, .int 0, .ref (a 208), .ref (a 209), .ref (a 210), .ref (a 211), .ref (a 212), .int 4, .int 12, .int (-1), .int 0, .ref (g 200), .ref (a 213), .int 0, .int 97, .ref (a 214), .ref (a 215), .ref (a 207), .null, .int 0]))] := hD
    refine lv_if_eq (tgt := 24) hx hb dX15_fails_17 (by decide) (fun c_2 => ?_) (fun c_2 => ?_)
    · exact absurd c_2 (by decide)
    · refine lv_lconst (v := 0) hx hb dX15_fails_20 (by decide) ?_
      refine lv_goto (tgt := 29) hx hb dX15_fails_21 (by decide) ?_
      have hP9 := hP.sub (ws' := [((a 200), .inr (21, [.int 1, .ref (a 201), .ref (a 202), .ref (a 203), .ref (a 204), .ref (a 205), .ref (a 206), .int 0, .int 0, .int 0, .int 0, .ref (a 208), .ref (a 209), .ref (a 210), .ref (a 211), .ref (a 212), .int 4, .int 12, .int (-1), .int 0, .ref (g 200), .ref (a 213), .int 0, .int 97, .ref (a 214), .ref (a 215), .ref (a 207), .null, .int 0]))]) [1] rfl
      have hD9 := hD.sub (ws' := [((a 200), .inr (21, [.int 1, .ref (a 201), .ref (a 202), .ref (a 203), .ref (a 204), .ref (a 205), .ref (a 206), .int 0, .int 0, .int 0, .int 0, .ref (a 208), .ref (a 209), .ref (a 210), .ref (a 211), .ref (a 212), .int 4, .int 12, .int (-1), .int 0, .ref (g 200), .ref (a 213), .int 0, .int 97, .ref (a 214), .ref (a 215), .ref (a 207), .null, .int 0]))]) [1] (by decide) rfl
      refine W.widen (k := 0) (n := 0) (Nat.le_of_ble_eq_true rfl) (Nat.le_of_ble_eq_true rfl) ?_
      exact W.lret (v := 0) hx hb hr (fun t ht9 hW9 => ⟨⟨0, (), rfl, ⟨rfl, trivial⟩, ⟨(by rw [ht9]; exact hP9), hD9⟩⟩, hS.F ht9⟩) hS.2.2 dX15_fails_29 hlocks
  · exact absurd c_1 (by decide)
set_option maxHeartbeats 4000000 in
set_option maxRecDepth 100000 in
theorem k_X15_faults (l : Launch) (D : va_G) (g : Nat → ClassId) (z0 sz : Nat) (a : Nat → Nat) : Met l yX15_faults (.code yX15_faults cX15_faults 1 (some .int) :: TG) (rmk 1 0 0 20) (va_Pc [.ref (a 200)] (PP D g z0 sz [((a 200), f_m a g), ((a 204), .inr (5, [.int 0, .ref (g 100), .int 0]))])) (va_Qi (fun (r : Int32) (u : Unit) => (r = 0) ∧ True) (fun (u : Unit) (t : State) => va_P D vwCl [((a 200), .inr (21, [.int 0, .ref (a 201), .ref (a 202), .ref (a 203), .ref (a 204), .ref (a 205), .ref (a 206), .int 0, .int 0, .int 0, .int 0, .ref (a 208), .ref (a 209), .ref (a 210), .ref (a 211), .ref (a 212), .int 4, .int 12, .int (-1), .int 0, .ref (g 200), .ref (a 213), .int 0, .int 97, .ref (a 214), .ref (a 215), .ref (a 207), .null, .int 0]))] t.heap ∧ va_D (va_A [((a 200), f_m a g), ((a 204), .inr (5, [.int 0, .ref (g 100), .int 0]))] sz) [((a 200), .inr (21, [.int 0, .ref (a 201), .ref (a 202), .ref (a 203), .ref (a 204), .ref (a 205), .ref (a 206), .int 0, .int 0, .int 0, .int 0, .ref (a 208), .ref (a 209), .ref (a 210), .ref (a 211), .ref (a 212), .int 4, .int 12, .int (-1), .int 0, .ref (g 200), .ref (a 213), .int 0, .int 97, .ref (a 214), .ref (a 215), .ref (a 207), .null, .int 0]))]) (va_A [((a 200), f_m a g), ((a 204), .inr (5, [.int 0, .ref (g 100), .int 0]))] sz)) 0 0 (va_A [((a 200), f_m a g), ((a 204), .inr (5, [.int 0, .ref (g 100), .int 0]))] sz) := by
  refine met0 (cc := cX15_faults) (n := 1) (by decide) (Nat.le_of_ble_eq_true rfl) ?_
  intro p e s m args below meth c hx hb hr hml hown ht hlocks hnm hP0 hD0 hK hZ hsz hz ls hl
  subst hsz
  have hA : ∀ q : Nat, s.heap.size ≤ q → va_A [((a 200), f_m a g), ((a 204), .inr (5, [.int 0, .ref (g 100), .int 0]))] s.heap.size q := Anw
  have hAz : ∀ q, va_A [((a 200), f_m a g), ((a 204), .inr (5, [.int 0, .ref (g 100), .int 0]))] s.heap.size q → z0 ≤ q := Awz hz hD0
  have hS : va_S (va_A [((a 200), f_m a g), ((a 204), .inr (5, [.int 0, .ref (g 100), .int 0]))] s.heap.size) s.heap s.heap [] := va_S.rf
  have hD : va_D (va_A [((a 200), f_m a g), ((a 204), .inr (5, [.int 0, .ref (g 100), .int 0]))] s.heap.size) [((a 200), f_m a g), ((a 204), .inr (5, [.int 0, .ref (g 100), .int 0]))] := hD0.self
  have hP : va_P D vwCl [((a 200), f_m a g), ((a 204), .inr (5, [.int 0, .ref (g 100), .int 0]))] s.heap := hP0
  have hl : lv_has ls 1 [(0, .ref (a 200))] := hl
  refine lv_aload_n hx hb dX15_faults_0 rfl (lv_at hl 0 rfl) ?_
  refine lv_iconst (v := 0) hx hb dX15_faults_1 (by decide) ?_
  refine va_put (D := D) (ci := 21) (v := .int 0) (ty := .int) (C := RX15) (T := TX15) (N := 29) hx hb ht in_X15 tyX15 tyX15_ok nmX15 hown hK.1 hP hD hS 0 rfl rfl 0 (by decide) (ht _ w_303) (fun _ h9 => h9) rfl (by decide +kernel) rfl rfl (Nat.le_of_ble_eq_true rfl) dX15_faults_2 (fun H locs hP hD hS => ?_)
  have hP : va_P D vwCl [((a 200), .inr (21, [.int 0, .ref (a 201), .ref (a 202), .ref (a 203), .ref (a 204), .ref (a 205), .ref (a 206), .int 0, .int 0, .int 0, .int 0, .ref (a 208), .ref (a 209), .ref (a 210), .ref (a 211), .ref (a 212), .int 4, .int 12, .int (-1), .int 0, .ref (g 200), .ref (a 213), .int 0, .int 97, .ref (a 214), .ref (a 215), .ref (a 207), .null, .int 0])), ((a 204), .inr (5, [.int 0, .ref (g 100), .int 0]))] H := hP
  have hD : va_D (va_A [((a 200), f_m a g), ((a 204), .inr (5, [.int 0, .ref (g 100), .int 0]))] s.heap.size) [((a 200), .inr (21, [.int 0, .ref (a 201), .ref (a 202), .ref (a 203), .ref (a 204), .ref (a 205), .ref (a 206), .int 0, .int 0, .int 0, .int 0, .ref (a 208), .ref (a 209), .ref (a 210), .ref (a 211), .ref (a 212), .int 4, .int 12, .int (-1), .int 0, .ref (g 200), .ref (a 213), .int 0, .int 97, .ref (a 214), .ref (a 215), .ref (a 207), .null, .int 0])), ((a 204), .inr (5, [.int 0, .ref (g 100), .int 0]))] := hD
  refine lv_aload_n hx hb dX15_faults_5 rfl (lv_at hl 0 rfl) ?_
  refine va_get (D := D) (ci := 21) (v := .ref (a 204)) (C := RX15) (T := TX15) (N := 29) hx hb ht in_X15 hown hK.1 hP 0 rfl rfl 4 (by decide) (ht _ w_368) (fun _ h9 => h9) rfl dX15_faults_6 ?_
  have hPc : va_P D vwCl [((a 204), .inr (5, [.int 0, .ref (g 100), .int 0]))] _ := hP.sub (ws' := [((a 204), .inr (5, [.int 0, .ref (g 100), .int 0]))]) [1] rfl
  have hDc : va_D (fun q => z0 ≤ q) [((a 204), .inr (5, [.int 0, .ref (g 100), .int 0]))] := (hD.to hAz).pick (ws' := [((a 204), .inr (5, [.int 0, .ref (g 100), .int 0]))]) [1] (by decide) rfl
  have hFc := AnA (ws := [((a 200), f_m a g), ((a 204), .inr (5, [.int 0, .ref (g 100), .int 0]))]) hS.1
  refine va_callFi (va_runF (As := []) (rest := []) (hK.1.1 5 _ rfl).2 ⟨hx, hb, hml, hown, ht⟩ (k_Jx4a65c_size_8abf5 l D g z0 _ a (a 204)) (va_cwF 0 ht (gF w_356 w_358 w_359 w_323 w_357) rfl rfl rfl (hK.2.2.2.1 _ (List.mem_of_getElem? (i := 0) rfl)) (by decide +kernel) (le2 rfl rfl)) ⟨PP.blind, va_recv hK.1 hP (ci := 5) (q0 := 1) rfl rfl, PP.mk' hK hZ hz hAz hS hPc hDc⟩ rfl rfl hl.1 rfl (lv_room (Nat.le_of_ble_eq_true rfl)) dX15_faults_9 (le2 rfl rfl)) hS (fun q _ h => hFc q h) hFc (fun r u t H locs ht1 hvm hw hB hz1 hk1 hS => ?_)
  obtain ⟨rfl, hw⟩ := hw
  have hP := ro1 hP hk1
  have hP9 := hP.sub (ws' := [((a 200), .inr (21, [.int 0, .ref (a 201), .ref (a 202), .ref (a 203), .ref (a 204), .ref (a 205), .ref (a 206), .int 0, .int 0, .int 0, .int 0, .ref (a 208), .ref (a 209), .ref (a 210), .ref (a 211), .ref (a 212), .int 4, .int 12, .int (-1), .int 0, .ref (g 200), .ref (a 213), .int 0, .int 97, .ref (a 214), .ref (a 215), .ref (a 207), .null, .int 0]))]) [0] rfl
  have hD9 := hD.sub (ws' := [((a 200), .inr (21, [.int 0, .ref (a 201), .ref (a 202), .ref (a 203), .ref (a 204), .ref (a 205), .ref (a 206), .int 0, .int 0, .int 0, .int 0, .ref (a 208), .ref (a 209), .ref (a 210), .ref (a 211), .ref (a 212), .int 4, .int 12, .int (-1), .int 0, .ref (g 200), .ref (a 213), .int 0, .int 97, .ref (a 214), .ref (a 215), .ref (a 207), .null, .int 0]))]) [0] (by decide) rfl
  refine W.widen (k := 0) (n := 0) (Nat.le_of_ble_eq_true rfl) (Nat.le_of_ble_eq_true rfl) ?_
  exact W.iret (v := 0) hx hb hr (fun t ht9 hW9 => ⟨⟨0, (), rfl, ⟨rfl, trivial⟩, ⟨(by rw [ht9]; exact hP9), hD9⟩⟩, hS.F ht9⟩) hS.2.2 dX15_faults_14 hlocks
set_option maxHeartbeats 4000000 in
set_option maxRecDepth 100000 in
theorem k_X15_faulty (l : Launch) (D : va_G) (g : Nat → ClassId) (z0 sz : Nat) (a : Nat → Nat) (p0 : Int32) (p1 : Int32) (p2 : Int32) : Met l yX15_faulty (.code yX15_faulty cX15_faulty 6 (some .int) :: TG) (rmk 2 0 0 43) (va_Pc [.ref (a 200), .int p0, .int p1, .int p2] (PP D g z0 sz [((a 200), f_m a g), ((a 206), .inr (5, [.int 0, .ref (g 100), .int 0]))])) (va_Qi (fun (r : Int32) (u : Unit) => (r = 0) ∧ True) (fun (u : Unit) (t : State) => va_P D vwCl [((a 200), .inr (21, [.int 1, .ref (a 201), .ref (a 202), .ref (a 203), .ref (a 204), .ref (a 205), .ref (a 206), .int 0, .int 0, .int 0, .int 0, .ref (a 208), .ref (a 209), .ref (a 210), .ref (a 211), .ref (a 212), .int 4, .int 12, .int (-1), .int 0, .ref (g 200), .ref (a 213), .int 0, .int 97, .ref (a 214), .ref (a 215), .ref (a 207), .null, .int 0]))] t.heap ∧ va_D (va_A [((a 200), f_m a g), ((a 206), .inr (5, [.int 0, .ref (g 100), .int 0]))] sz) [((a 200), .inr (21, [.int 1, .ref (a 201), .ref (a 202), .ref (a 203), .ref (a 204), .ref (a 205), .ref (a 206), .int 0, .int 0, .int 0, .int 0, .ref (a 208), .ref (a 209), .ref (a 210), .ref (a 211), .ref (a 212), .int 4, .int 12, .int (-1), .int 0, .ref (g 200), .ref (a 213), .int 0, .int 97, .ref (a 214), .ref (a 215), .ref (a 207), .null, .int 0]))]) (va_A [((a 200), f_m a g), ((a 206), .inr (5, [.int 0, .ref (g 100), .int 0]))] sz)) 0 0 (va_A [((a 200), f_m a g), ((a 206), .inr (5, [.int 0, .ref (g 100), .int 0]))] sz) := by
  refine met0 (cc := cX15_faulty) (n := 6) (by decide) (Nat.le_of_ble_eq_true rfl) ?_
  intro p e s m args below meth c hx hb hr hml hown ht hlocks hnm hP0 hD0 hK hZ hsz hz ls hl
  subst hsz
  have hA : ∀ q : Nat, s.heap.size ≤ q → va_A [((a 200), f_m a g), ((a 206), .inr (5, [.int 0, .ref (g 100), .int 0]))] s.heap.size q := Anw
  have hAz : ∀ q, va_A [((a 200), f_m a g), ((a 206), .inr (5, [.int 0, .ref (g 100), .int 0]))] s.heap.size q → z0 ≤ q := Awz hz hD0
  have hS : va_S (va_A [((a 200), f_m a g), ((a 206), .inr (5, [.int 0, .ref (g 100), .int 0]))] s.heap.size) s.heap s.heap [] := va_S.rf
  have hD : va_D (va_A [((a 200), f_m a g), ((a 206), .inr (5, [.int 0, .ref (g 100), .int 0]))] s.heap.size) [((a 200), f_m a g), ((a 206), .inr (5, [.int 0, .ref (g 100), .int 0]))] := hD0.self
  have hP : va_P D vwCl [((a 200), f_m a g), ((a 206), .inr (5, [.int 0, .ref (g 100), .int 0]))] s.heap := hP0
  have hl : lv_has ls 6 [(0, .ref (a 200)), (1, .int p0), (2, .int p1), (3, .int p2)] := hl
  refine lv_aload_n hx hb dX15_faulty_0 rfl (lv_at hl 0 rfl) ?_
  refine lv_aload_n hx hb dX15_faulty_1 rfl (lv_at hl 0 rfl) ?_
  refine lv_iload_n hx hb dX15_faulty_2 rfl (lv_at hl 1 rfl) ?_
  have hPc : va_P D vwCl [((a 200), f_m a g), ((a 206), .inr (5, [.int 0, .ref (g 100), .int 0]))] _ := hP.sub (ws' := [((a 200), f_m a g), ((a 206), .inr (5, [.int 0, .ref (g 100), .int 0]))]) [0, 1] rfl
  have hDc : va_D (fun q => z0 ≤ q) [((a 200), f_m a g), ((a 206), .inr (5, [.int 0, .ref (g 100), .int 0]))] := (hD.to hAz).pick (ws' := [((a 200), f_m a g), ((a 206), .inr (5, [.int 0, .ref (g 100), .int 0]))]) [0, 1] (by decide) rfl
  have hFc := AnA (ws := [((a 200), f_m a g), ((a 206), .inr (5, [.int 0, .ref (g 100), .int 0]))]) hS.1
  refine va_calli (va_runV (As := [.int p0]) (rest := [.ref (a 200)]) ⟨hx, hb, hml, hown, ht⟩ (k_X15_isPattern l D g z0 _ a p0) (cwV 1 ht (gV w_498 w_500 w_501 w_334 w_499) rfl rfl rfl (by decide +kernel) (le2 rfl rfl)) ⟨PP.blind, va_recv hK.1 hP (ci := 21) (q0 := 0) rfl rfl, PP.mk' hK hZ hz hAz hS hPc hDc⟩ rfl rfl hl.1 rfl (lv_room (Nat.le_of_ble_eq_true rfl)) dX15_faulty_3 (le2 rfl rfl)) hS (fun q _ h => hFc q h) hFc (fun r u t H locs ht1 hvm hw hB hz1 hk1 hS => ?_)
  obtain ⟨rfl, hw⟩ := hw
  have hP := ro1 hP hk1
  refine lv_if_eq (tgt := 29) hx hb dX15_faulty_6 (by decide) (fun c_1 => ?_) (fun c_1 => ?_)
  · refine lv_iconst (v := 1) hx hb dX15_faulty_29 (by decide) ?_
    have hPc : va_P D vwCl [((a 200), f_m a g)] _ := hP.sub (ws' := [((a 200), f_m a g)]) [0] rfl
    have hDc : va_D (fun q => z0 ≤ q) [((a 200), f_m a g)] := (hD.to hAz).pick (ws' := [((a 200), f_m a g)]) [0] (by decide) rfl
    have hFc := va_free (wc := [((a 200), f_m a g)]) hD hS hA [0] rfl
    refine va_calli (va_runV (As := [.int 1]) (rest := []) ⟨hx, hb, hml, hown, ht⟩ (k_X15_isWrong l D g z0 _ a) (cwV 1 ht (gV w_376 w_378 w_379 w_334 w_377) rfl rfl rfl (by decide +kernel) (le2 rfl rfl)) ⟨PP.blind, va_recv hK.1 hP (ci := 21) (q0 := 0) rfl rfl, PP.mk' hK hZ hz hAz hS hPc hDc⟩ rfl rfl hl.1 rfl (lv_room (Nat.le_of_ble_eq_true rfl)) dX15_faulty_30 (le2 rfl rfl)) hS (fun q _ h => hFc q h) hFc (fun r u t H locs ht1 hvm hw hB hz1 hk1 hS => ?_)
    obtain ⟨rfl, hw⟩ := hw
    obtain ⟨hP1, hD1⟩ := hB
    rw [ht1] at hP1
    obtain ⟨hP, hD⟩ := va_join (wr := [((a 206), .inr (5, [.int 0, .ref (g 100), .int 0]))]) (w1 := [((a 200), .inr (21, [.int 1, .ref (a 201), .ref (a 202), .ref (a 203), .ref (a 204), .ref (a 205), .ref (a 206), .int 0, .int 0, .int 0, .int 0, .ref (a 208), .ref (a 209), .ref (a 210), .ref (a 211), .ref (a 212), .int 4, .int 12, .int (-1), .int 0, .ref (g 200), .ref (a 213), .int 0, .int 97, .ref (a 214), .ref (a 215), .ref (a 207), .null, .int 0]))]) hP hD [0] [1] rfl rfl (by decide) (by decide) hk1 hFc hP1 hD1
    have hP : va_P D vwCl [((a 206), .inr (5, [.int 0, .ref (g 100), .int 0])), ((a 200), .inr (21, [.int 1, .ref (a 201), .ref (a 202), .ref (a 203), .ref (a 204), .ref (a 205), .ref (a 206), .int 0, .int 0, .int 0, .int 0, .ref (a 208), .ref (a 209), .ref (a 210), .ref (a 211), .ref (a 212), .int 4, .int 12, .int (-1), .int 0, .ref (g 200), .ref (a 213), .int 0, .int 97, .ref (a 214), .ref (a 215), .ref (a 207), .null, .int 0]))] H := hP
    have hD : va_D (va_A [((a 200), f_m a g), ((a 206), .inr (5, [.int 0, .ref (g 100), .int 0]))] s.heap.size) [((a 206), .inr (5, [.int 0, .ref (g 100), .int 0])), ((a 200), .inr (21, [.int 1, .ref (a 201), .ref (a 202), .ref (a 203), .ref (a 204), .ref (a 205), .ref (a 206), .int 0, .int 0, .int 0, .int 0, .ref (a 208), .ref (a 209), .ref (a 210), .ref (a 211), .ref (a 212), .int 4, .int 12, .int (-1), .int 0, .ref (g 200), .ref (a 213), .int 0, .int 97, .ref (a 214), .ref (a 215), .ref (a 207), .null, .int 0]))] := hD
    refine lv_if_eq (tgt := 38) hx hb dX15_faulty_33 (by decide) (fun c_2 => ?_) (fun c_2 => ?_)
    · exact absurd c_2 (by decide)
    · refine lv_iconst (v := 0) hx hb dX15_faulty_36 (by decide) ?_
      have hP9 := hP.sub (ws' := [((a 200), .inr (21, [.int 1, .ref (a 201), .ref (a 202), .ref (a 203), .ref (a 204), .ref (a 205), .ref (a 206), .int 0, .int 0, .int 0, .int 0, .ref (a 208), .ref (a 209), .ref (a 210), .ref (a 211), .ref (a 212), .int 4, .int 12, .int (-1), .int 0, .ref (g 200), .ref (a 213), .int 0, .int 97, .ref (a 214), .ref (a 215), .ref (a 207), .null, .int 0]))]) [1] rfl
      have hD9 := hD.sub (ws' := [((a 200), .inr (21, [.int 1, .ref (a 201), .ref (a 202), .ref (a 203), .ref (a 204), .ref (a 205), .ref (a 206), .int 0, .int 0, .int 0, .int 0, .ref (a 208), .ref (a 209), .ref (a 210), .ref (a 211), .ref (a 212), .int 4, .int 12, .int (-1), .int 0, .ref (g 200), .ref (a 213), .int 0, .int 97, .ref (a 214), .ref (a 215), .ref (a 207), .null, .int 0]))]) [1] (by decide) rfl
      refine W.widen (k := 0) (n := 0) (Nat.le_of_ble_eq_true rfl) (Nat.le_of_ble_eq_true rfl) ?_
      exact W.iret (v := 0) hx hb hr (fun t ht9 hW9 => ⟨⟨0, (), rfl, ⟨rfl, trivial⟩, ⟨(by rw [ht9]; exact hP9), hD9⟩⟩, hS.F ht9⟩) hS.2.2 dX15_faulty_37 hlocks
  · exact absurd c_1 (by decide)
set_option maxHeartbeats 4000000 in
set_option maxRecDepth 100000 in
theorem k_X15_fill (l : Launch) (D : va_G) (g : Nat → ClassId) (z0 sz : Nat) (a : Nat → Nat) (p0 : Int32) (p1 : Int32) (hc_p1 : isC p1) : Met l yX15_fill (.code yX15_fill cX15_fill 7 (some .int) :: TG) (rmk 2 0 0 43) (va_Pc [.ref (a 200), .int p0, .int p1] (PP D g z0 sz [((a 200), f_m a g), ((a 206), .inr (5, [.int 0, .ref (g 100), .int 0]))])) (va_Qi (fun (r : Int32) (u : Unit) => (r = 0) ∧ True) (fun (u : Unit) (t : State) => va_P D vwCl [((a 200), .inr (21, [.int 1, .ref (a 201), .ref (a 202), .ref (a 203), .ref (a 204), .ref (a 205), .ref (a 206), .int 0, .int 0, .int 0, .int 0, .ref (a 208), .ref (a 209), .ref (a 210), .ref (a 211), .ref (a 212), .int 4, .int 12, .int (-1), .int 0, .ref (g 200), .ref (a 213), .int 0, .int 97, .ref (a 214), .ref (a 215), .ref (a 207), .null, .int 0]))] t.heap ∧ va_D (va_A [((a 200), f_m a g), ((a 206), .inr (5, [.int 0, .ref (g 100), .int 0]))] sz) [((a 200), .inr (21, [.int 1, .ref (a 201), .ref (a 202), .ref (a 203), .ref (a 204), .ref (a 205), .ref (a 206), .int 0, .int 0, .int 0, .int 0, .ref (a 208), .ref (a 209), .ref (a 210), .ref (a 211), .ref (a 212), .int 4, .int 12, .int (-1), .int 0, .ref (g 200), .ref (a 213), .int 0, .int 97, .ref (a 214), .ref (a 215), .ref (a 207), .null, .int 0]))]) (va_A [((a 200), f_m a g), ((a 206), .inr (5, [.int 0, .ref (g 100), .int 0]))] sz)) 0 0 (va_A [((a 200), f_m a g), ((a 206), .inr (5, [.int 0, .ref (g 100), .int 0]))] sz) := by
  refine met0 (cc := cX15_fill) (n := 7) (by decide) (Nat.le_of_ble_eq_true rfl) ?_
  intro p e s m args below meth c hx hb hr hml hown ht hlocks hnm hP0 hD0 hK hZ hsz hz ls hl
  subst hsz
  have hA : ∀ q : Nat, s.heap.size ≤ q → va_A [((a 200), f_m a g), ((a 206), .inr (5, [.int 0, .ref (g 100), .int 0]))] s.heap.size q := Anw
  have hAz : ∀ q, va_A [((a 200), f_m a g), ((a 206), .inr (5, [.int 0, .ref (g 100), .int 0]))] s.heap.size q → z0 ≤ q := Awz hz hD0
  have hS : va_S (va_A [((a 200), f_m a g), ((a 206), .inr (5, [.int 0, .ref (g 100), .int 0]))] s.heap.size) s.heap s.heap [] := va_S.rf
  have hD : va_D (va_A [((a 200), f_m a g), ((a 206), .inr (5, [.int 0, .ref (g 100), .int 0]))] s.heap.size) [((a 200), f_m a g), ((a 206), .inr (5, [.int 0, .ref (g 100), .int 0]))] := hD0.self
  have hP : va_P D vwCl [((a 200), f_m a g), ((a 206), .inr (5, [.int 0, .ref (g 100), .int 0]))] s.heap := hP0
  have hl : lv_has ls 7 [(0, .ref (a 200)), (1, .int p0), (2, .int p1)] := hl
  refine lv_aload_n hx hb dX15_fill_0 rfl (lv_at hl 0 rfl) ?_
  refine lv_aload_n hx hb dX15_fill_1 rfl (lv_at hl 0 rfl) ?_
  refine lv_iload_n hx hb dX15_fill_2 rfl (lv_at hl 1 rfl) ?_
  have hPc : va_P D vwCl [((a 200), f_m a g), ((a 206), .inr (5, [.int 0, .ref (g 100), .int 0]))] _ := hP.sub (ws' := [((a 200), f_m a g), ((a 206), .inr (5, [.int 0, .ref (g 100), .int 0]))]) [0, 1] rfl
  have hDc : va_D (fun q => z0 ≤ q) [((a 200), f_m a g), ((a 206), .inr (5, [.int 0, .ref (g 100), .int 0]))] := (hD.to hAz).pick (ws' := [((a 200), f_m a g), ((a 206), .inr (5, [.int 0, .ref (g 100), .int 0]))]) [0, 1] (by decide) rfl
  have hFc := AnA (ws := [((a 200), f_m a g), ((a 206), .inr (5, [.int 0, .ref (g 100), .int 0]))]) hS.1
  refine va_calli (va_runV (As := [.int p0]) (rest := [.ref (a 200)]) ⟨hx, hb, hml, hown, ht⟩ (k_X15_isPattern l D g z0 _ a p0) (cwV 1 ht (gV w_498 w_500 w_501 w_334 w_499) rfl rfl rfl (by decide +kernel) (le2 rfl rfl)) ⟨PP.blind, va_recv hK.1 hP (ci := 21) (q0 := 0) rfl rfl, PP.mk' hK hZ hz hAz hS hPc hDc⟩ rfl rfl hl.1 rfl (lv_room (Nat.le_of_ble_eq_true rfl)) dX15_fill_3 (le2 rfl rfl)) hS (fun q _ h => hFc q h) hFc (fun r u t H locs ht1 hvm hw hB hz1 hk1 hS => ?_)
  obtain ⟨rfl, hw⟩ := hw
  have hP := ro1 hP hk1
  refine lv_if_ne (tgt := 13) hx hb dX15_fill_6 (by decide) (fun c_1 => ?_) (fun c_1 => ?_)
  · exact absurd c_1 (by decide)
  · refine lv_iconst (v := 1) hx hb dX15_fill_9 (by decide) ?_
    refine lv_goto (tgt := 28) hx hb dX15_fill_10 (by decide) ?_
    have hPc : va_P D vwCl [((a 200), f_m a g)] _ := hP.sub (ws' := [((a 200), f_m a g)]) [0] rfl
    have hDc : va_D (fun q => z0 ≤ q) [((a 200), f_m a g)] := (hD.to hAz).pick (ws' := [((a 200), f_m a g)]) [0] (by decide) rfl
    have hFc := va_free (wc := [((a 200), f_m a g)]) hD hS hA [0] rfl
    refine va_calli (va_runV (As := [.int 1]) (rest := []) ⟨hx, hb, hml, hown, ht⟩ (k_X15_isWrong l D g z0 _ a) (cwV 1 ht (gV w_376 w_378 w_379 w_334 w_377) rfl rfl rfl (by decide +kernel) (le2 rfl rfl)) ⟨PP.blind, va_recv hK.1 hP (ci := 21) (q0 := 0) rfl rfl, PP.mk' hK hZ hz hAz hS hPc hDc⟩ rfl rfl hl.1 rfl (lv_room (Nat.le_of_ble_eq_true rfl)) dX15_fill_28 (le2 rfl rfl)) hS (fun q _ h => hFc q h) hFc (fun r u t H locs ht1 hvm hw hB hz1 hk1 hS => ?_)
    obtain ⟨rfl, hw⟩ := hw
    obtain ⟨hP1, hD1⟩ := hB
    rw [ht1] at hP1
    obtain ⟨hP, hD⟩ := va_join (wr := [((a 206), .inr (5, [.int 0, .ref (g 100), .int 0]))]) (w1 := [((a 200), .inr (21, [.int 1, .ref (a 201), .ref (a 202), .ref (a 203), .ref (a 204), .ref (a 205), .ref (a 206), .int 0, .int 0, .int 0, .int 0, .ref (a 208), .ref (a 209), .ref (a 210), .ref (a 211), .ref (a 212), .int 4, .int 12, .int (-1), .int 0, .ref (g 200), .ref (a 213), .int 0, .int 97, .ref (a 214), .ref (a 215), .ref (a 207), .null, .int 0]))]) hP hD [0] [1] rfl rfl (by decide) (by decide) hk1 hFc hP1 hD1
    have hP : va_P D vwCl [((a 206), .inr (5, [.int 0, .ref (g 100), .int 0])), ((a 200), .inr (21, [.int 1, .ref (a 201), .ref (a 202), .ref (a 203), .ref (a 204), .ref (a 205), .ref (a 206), .int 0, .int 0, .int 0, .int 0, .ref (a 208), .ref (a 209), .ref (a 210), .ref (a 211), .ref (a 212), .int 4, .int 12, .int (-1), .int 0, .ref (g 200), .ref (a 213), .int 0, .int 97, .ref (a 214), .ref (a 215), .ref (a 207), .null, .int 0]))] H := hP
    have hD : va_D (va_A [((a 200), f_m a g), ((a 206), .inr (5, [.int 0, .ref (g 100), .int 0]))] s.heap.size) [((a 206), .inr (5, [.int 0, .ref (g 100), .int 0])), ((a 200), .inr (21, [.int 1, .ref (a 201), .ref (a 202), .ref (a 203), .ref (a 204), .ref (a 205), .ref (a 206), .int 0, .int 0, .int 0, .int 0, .ref (a 208), .ref (a 209), .ref (a 210), .ref (a 211), .ref (a 212), .int 4, .int 12, .int (-1), .int 0, .ref (g 200), .ref (a 213), .int 0, .int 97, .ref (a 214), .ref (a 215), .ref (a 207), .null, .int 0]))] := hD
    refine lv_if_eq (tgt := 36) hx hb dX15_fill_31 (by decide) (fun c_2 => ?_) (fun c_2 => ?_)
    · exact absurd c_2 (by decide)
    · refine lv_iconst (v := 0) hx hb dX15_fill_34 (by decide) ?_
      have hP9 := hP.sub (ws' := [((a 200), .inr (21, [.int 1, .ref (a 201), .ref (a 202), .ref (a 203), .ref (a 204), .ref (a 205), .ref (a 206), .int 0, .int 0, .int 0, .int 0, .ref (a 208), .ref (a 209), .ref (a 210), .ref (a 211), .ref (a 212), .int 4, .int 12, .int (-1), .int 0, .ref (g 200), .ref (a 213), .int 0, .int 97, .ref (a 214), .ref (a 215), .ref (a 207), .null, .int 0]))]) [1] rfl
      have hD9 := hD.sub (ws' := [((a 200), .inr (21, [.int 1, .ref (a 201), .ref (a 202), .ref (a 203), .ref (a 204), .ref (a 205), .ref (a 206), .int 0, .int 0, .int 0, .int 0, .ref (a 208), .ref (a 209), .ref (a 210), .ref (a 211), .ref (a 212), .int 4, .int 12, .int (-1), .int 0, .ref (g 200), .ref (a 213), .int 0, .int 97, .ref (a 214), .ref (a 215), .ref (a 207), .null, .int 0]))]) [1] (by decide) rfl
      refine W.widen (k := 0) (n := 0) (Nat.le_of_ble_eq_true rfl) (Nat.le_of_ble_eq_true rfl) ?_
      exact W.iret (v := 0) hx hb hr (fun t ht9 hW9 => ⟨⟨0, (), rfl, ⟨rfl, trivial⟩, ⟨(by rw [ht9]; exact hP9), hD9⟩⟩, hS.F ht9⟩) hS.2.2 dX15_fill_35 hlocks
set_option maxHeartbeats 4000000 in
set_option maxRecDepth 100000 in
theorem k_X15_finds (l : Launch) (D : va_G) (g : Nat → ClassId) (z0 sz : Nat) (a : Nat → Nat) (p0 : Int32) (p1 : Int32) (p2 : Int32) (hc_p2 : isC p2) : Met l yX15_finds (.code yX15_finds cX15_finds 4 (some .boolean) :: TG) (rmk 2 0 0 43) (va_Pc [.ref (a 200), .int p0, .int p1, .int p2] (PP D g z0 sz [((a 200), f_m a g), ((a 204), .inr (5, [.int 0, .ref (g 100), .int 0]))])) (va_Qi (fun (r : Int32) (u : Unit) => (r = 0) ∧ True) (fun (u : Unit) (t : State) => va_P D vwCl [((a 200), .inr (21, [.int 1, .ref (a 201), .ref (a 202), .ref (a 203), .ref (a 204), .ref (a 205), .ref (a 206), .int 0, .int 0, .int 0, .int 0, .ref (a 208), .ref (a 209), .ref (a 210), .ref (a 211), .ref (a 212), .int 4, .int 12, .int (-1), .int 0, .ref (g 200), .ref (a 213), .int 0, .int 97, .ref (a 214), .ref (a 215), .ref (a 207), .null, .int 0]))] t.heap ∧ va_D (va_A [((a 200), f_m a g), ((a 204), .inr (5, [.int 0, .ref (g 100), .int 0]))] sz) [((a 200), .inr (21, [.int 1, .ref (a 201), .ref (a 202), .ref (a 203), .ref (a 204), .ref (a 205), .ref (a 206), .int 0, .int 0, .int 0, .int 0, .ref (a 208), .ref (a 209), .ref (a 210), .ref (a 211), .ref (a 212), .int 4, .int 12, .int (-1), .int 0, .ref (g 200), .ref (a 213), .int 0, .int 97, .ref (a 214), .ref (a 215), .ref (a 207), .null, .int 0]))]) (va_A [((a 200), f_m a g), ((a 204), .inr (5, [.int 0, .ref (g 100), .int 0]))] sz)) 0 0 (va_A [((a 200), f_m a g), ((a 204), .inr (5, [.int 0, .ref (g 100), .int 0]))] sz) := by
  refine met0 (cc := cX15_finds) (n := 4) (by decide) (Nat.le_of_ble_eq_true rfl) ?_
  intro p e s m args below meth c hx hb hr hml hown ht hlocks hnm hP0 hD0 hK hZ hsz hz ls hl
  subst hsz
  have hA : ∀ q : Nat, s.heap.size ≤ q → va_A [((a 200), f_m a g), ((a 204), .inr (5, [.int 0, .ref (g 100), .int 0]))] s.heap.size q := Anw
  have hAz : ∀ q, va_A [((a 200), f_m a g), ((a 204), .inr (5, [.int 0, .ref (g 100), .int 0]))] s.heap.size q → z0 ≤ q := Awz hz hD0
  have hS : va_S (va_A [((a 200), f_m a g), ((a 204), .inr (5, [.int 0, .ref (g 100), .int 0]))] s.heap.size) s.heap s.heap [] := va_S.rf
  have hD : va_D (va_A [((a 200), f_m a g), ((a 204), .inr (5, [.int 0, .ref (g 100), .int 0]))] s.heap.size) [((a 200), f_m a g), ((a 204), .inr (5, [.int 0, .ref (g 100), .int 0]))] := hD0.self
  have hP : va_P D vwCl [((a 200), f_m a g), ((a 204), .inr (5, [.int 0, .ref (g 100), .int 0]))] s.heap := hP0
  have hl : lv_has ls 4 [(0, .ref (a 200)), (1, .int p0), (2, .int p1), (3, .int p2)] := hl
  refine lv_aload_n hx hb dX15_finds_0 rfl (lv_at hl 0 rfl) ?_
  refine lv_aload_n hx hb dX15_finds_1 rfl (lv_at hl 0 rfl) ?_
  refine lv_iload_n hx hb dX15_finds_2 rfl (lv_at hl 1 rfl) ?_
  have hPc : va_P D vwCl [((a 200), f_m a g), ((a 204), .inr (5, [.int 0, .ref (g 100), .int 0]))] _ := hP.sub (ws' := [((a 200), f_m a g), ((a 204), .inr (5, [.int 0, .ref (g 100), .int 0]))]) [0, 1] rfl
  have hDc : va_D (fun q => z0 ≤ q) [((a 200), f_m a g), ((a 204), .inr (5, [.int 0, .ref (g 100), .int 0]))] := (hD.to hAz).pick (ws' := [((a 200), f_m a g), ((a 204), .inr (5, [.int 0, .ref (g 100), .int 0]))]) [0, 1] (by decide) rfl
  have hFc := AnA (ws := [((a 200), f_m a g), ((a 204), .inr (5, [.int 0, .ref (g 100), .int 0]))]) hS.1
  refine va_calli (va_runV (As := [.int p0]) (rest := [.ref (a 200)]) ⟨hx, hb, hml, hown, ht⟩ (k_X15_isFault l D g z0 _ a p0) (cwV 1 ht (gV w_372 w_374 w_375 w_334 w_373) rfl rfl rfl (by decide +kernel) (le2 rfl rfl)) ⟨PP.blind, va_recv hK.1 hP (ci := 21) (q0 := 0) rfl rfl, PP.mk' hK hZ hz hAz hS hPc hDc⟩ rfl rfl hl.1 rfl (lv_room (Nat.le_of_ble_eq_true rfl)) dX15_finds_3 (le2 rfl rfl)) hS (fun q _ h => hFc q h) hFc (fun r u t H locs ht1 hvm hw hB hz1 hk1 hS => ?_)
  obtain ⟨rfl, hw⟩ := hw
  have hP := ro1 hP hk1
  refine lv_if_eq (tgt := 17) hx hb dX15_finds_6 (by decide) (fun c_1 => ?_) (fun c_1 => ?_)
  · refine lv_iconst (v := 1) hx hb dX15_finds_17 (by decide) ?_
    refine lv_goto (tgt := 36) hx hb dX15_finds_18 (by decide) ?_
    have hPc : va_P D vwCl [((a 200), f_m a g)] _ := hP.sub (ws' := [((a 200), f_m a g)]) [0] rfl
    have hDc : va_D (fun q => z0 ≤ q) [((a 200), f_m a g)] := (hD.to hAz).pick (ws' := [((a 200), f_m a g)]) [0] (by decide) rfl
    have hFc := va_free (wc := [((a 200), f_m a g)]) hD hS hA [0] rfl
    refine va_calli (va_runV (As := [.int 1]) (rest := []) ⟨hx, hb, hml, hown, ht⟩ (k_X15_isWrong l D g z0 _ a) (cwV 1 ht (gV w_376 w_378 w_379 w_334 w_377) rfl rfl rfl (by decide +kernel) (le2 rfl rfl)) ⟨PP.blind, va_recv hK.1 hP (ci := 21) (q0 := 0) rfl rfl, PP.mk' hK hZ hz hAz hS hPc hDc⟩ rfl rfl hl.1 rfl (lv_room (Nat.le_of_ble_eq_true rfl)) dX15_finds_36 (le2 rfl rfl)) hS (fun q _ h => hFc q h) hFc (fun r u t H locs ht1 hvm hw hB hz1 hk1 hS => ?_)
    obtain ⟨rfl, hw⟩ := hw
    obtain ⟨hP1, hD1⟩ := hB
    rw [ht1] at hP1
    obtain ⟨hP, hD⟩ := va_join (wr := [((a 204), .inr (5, [.int 0, .ref (g 100), .int 0]))]) (w1 := [((a 200), .inr (21, [.int 1, .ref (a 201), .ref (a 202), .ref (a 203), .ref (a 204), .ref (a 205), .ref (a 206), .int 0, .int 0, .int 0, .int 0, .ref (a 208), .ref (a 209), .ref (a 210), .ref (a 211), .ref (a 212), .int 4, .int 12, .int (-1), .int 0, .ref (g 200), .ref (a 213), .int 0, .int 97, .ref (a 214), .ref (a 215), .ref (a 207), .null, .int 0]))]) hP hD [0] [1] rfl rfl (by decide) (by decide) hk1 hFc hP1 hD1
    have hP : va_P D vwCl [((a 204), .inr (5, [.int 0, .ref (g 100), .int 0])), ((a 200), .inr (21, [.int 1, .ref (a 201), .ref (a 202), .ref (a 203), .ref (a 204), .ref (a 205), .ref (a 206), .int 0, .int 0, .int 0, .int 0, .ref (a 208), .ref (a 209), .ref (a 210), .ref (a 211), .ref (a 212), .int 4, .int 12, .int (-1), .int 0, .ref (g 200), .ref (a 213), .int 0, .int 97, .ref (a 214), .ref (a 215), .ref (a 207), .null, .int 0]))] H := hP
    have hD : va_D (va_A [((a 200), f_m a g), ((a 204), .inr (5, [.int 0, .ref (g 100), .int 0]))] s.heap.size) [((a 204), .inr (5, [.int 0, .ref (g 100), .int 0])), ((a 200), .inr (21, [.int 1, .ref (a 201), .ref (a 202), .ref (a 203), .ref (a 204), .ref (a 205), .ref (a 206), .int 0, .int 0, .int 0, .int 0, .ref (a 208), .ref (a 209), .ref (a 210), .ref (a 211), .ref (a 212), .int 4, .int 12, .int (-1), .int 0, .ref (g 200), .ref (a 213), .int 0, .int 97, .ref (a 214), .ref (a 215), .ref (a 207), .null, .int 0]))] := hD
    refine lv_if_eq (tgt := 44) hx hb dX15_finds_39 (by decide) (fun c_2 => ?_) (fun c_2 => ?_)
    · exact absurd c_2 (by decide)
    · refine lv_iconst (v := 0) hx hb dX15_finds_42 (by decide) ?_
      have hP9 := hP.sub (ws' := [((a 200), .inr (21, [.int 1, .ref (a 201), .ref (a 202), .ref (a 203), .ref (a 204), .ref (a 205), .ref (a 206), .int 0, .int 0, .int 0, .int 0, .ref (a 208), .ref (a 209), .ref (a 210), .ref (a 211), .ref (a 212), .int 4, .int 12, .int (-1), .int 0, .ref (g 200), .ref (a 213), .int 0, .int 97, .ref (a 214), .ref (a 215), .ref (a 207), .null, .int 0]))]) [1] rfl
      have hD9 := hD.sub (ws' := [((a 200), .inr (21, [.int 1, .ref (a 201), .ref (a 202), .ref (a 203), .ref (a 204), .ref (a 205), .ref (a 206), .int 0, .int 0, .int 0, .int 0, .ref (a 208), .ref (a 209), .ref (a 210), .ref (a 211), .ref (a 212), .int 4, .int 12, .int (-1), .int 0, .ref (g 200), .ref (a 213), .int 0, .int 97, .ref (a 214), .ref (a 215), .ref (a 207), .null, .int 0]))]) [1] (by decide) rfl
      refine W.widen (k := 0) (n := 0) (Nat.le_of_ble_eq_true rfl) (Nat.le_of_ble_eq_true rfl) ?_
      exact W.zret (v := 0) hx hb hr rfl (fun t ht9 hW9 => ⟨⟨0, (), rfl, ⟨rfl, trivial⟩, ⟨(by rw [ht9]; exact hP9), hD9⟩⟩, hS.F ht9⟩) hS.2.2 dX15_finds_43 hlocks
  · exact absurd c_1 (by decide)
set_option maxHeartbeats 4000000 in
set_option maxRecDepth 100000 in
theorem k_X15_foundBy (l : Launch) (D : va_G) (g : Nat → ClassId) (z0 sz : Nat) (a : Nat → Nat) (p0 : Int32) : Met l yX15_foundBy (.code yX15_foundBy cX15_foundBy 2 (some .long) :: TG) (rmk 2 0 0 43) (va_Pc [.ref (a 200), .int p0] (PP D g z0 sz [((a 200), f_m a g), ((a 204), .inr (5, [.int 0, .ref (g 100), .int 0]))])) (va_Ql (fun (r : Int64) (u : Unit) => (r = 0) ∧ True) (fun (u : Unit) (t : State) => va_P D vwCl [((a 200), .inr (21, [.int 1, .ref (a 201), .ref (a 202), .ref (a 203), .ref (a 204), .ref (a 205), .ref (a 206), .int 0, .int 0, .int 0, .int 0, .ref (a 208), .ref (a 209), .ref (a 210), .ref (a 211), .ref (a 212), .int 4, .int 12, .int (-1), .int 0, .ref (g 200), .ref (a 213), .int 0, .int 97, .ref (a 214), .ref (a 215), .ref (a 207), .null, .int 0]))] t.heap ∧ va_D (va_A [((a 200), f_m a g), ((a 204), .inr (5, [.int 0, .ref (g 100), .int 0]))] sz) [((a 200), .inr (21, [.int 1, .ref (a 201), .ref (a 202), .ref (a 203), .ref (a 204), .ref (a 205), .ref (a 206), .int 0, .int 0, .int 0, .int 0, .ref (a 208), .ref (a 209), .ref (a 210), .ref (a 211), .ref (a 212), .int 4, .int 12, .int (-1), .int 0, .ref (g 200), .ref (a 213), .int 0, .int 97, .ref (a 214), .ref (a 215), .ref (a 207), .null, .int 0]))]) (va_A [((a 200), f_m a g), ((a 204), .inr (5, [.int 0, .ref (g 100), .int 0]))] sz)) 0 0 (va_A [((a 200), f_m a g), ((a 204), .inr (5, [.int 0, .ref (g 100), .int 0]))] sz) := by
  refine met0 (cc := cX15_foundBy) (n := 2) (by decide) (Nat.le_of_ble_eq_true rfl) ?_
  intro p e s m args below meth c hx hb hr hml hown ht hlocks hnm hP0 hD0 hK hZ hsz hz ls hl
  subst hsz
  have hA : ∀ q : Nat, s.heap.size ≤ q → va_A [((a 200), f_m a g), ((a 204), .inr (5, [.int 0, .ref (g 100), .int 0]))] s.heap.size q := Anw
  have hAz : ∀ q, va_A [((a 200), f_m a g), ((a 204), .inr (5, [.int 0, .ref (g 100), .int 0]))] s.heap.size q → z0 ≤ q := Awz hz hD0
  have hS : va_S (va_A [((a 200), f_m a g), ((a 204), .inr (5, [.int 0, .ref (g 100), .int 0]))] s.heap.size) s.heap s.heap [] := va_S.rf
  have hD : va_D (va_A [((a 200), f_m a g), ((a 204), .inr (5, [.int 0, .ref (g 100), .int 0]))] s.heap.size) [((a 200), f_m a g), ((a 204), .inr (5, [.int 0, .ref (g 100), .int 0]))] := hD0.self
  have hP : va_P D vwCl [((a 200), f_m a g), ((a 204), .inr (5, [.int 0, .ref (g 100), .int 0]))] s.heap := hP0
  have hl : lv_has ls 2 [(0, .ref (a 200)), (1, .int p0)] := hl
  refine lv_aload_n hx hb dX15_foundBy_0 rfl (lv_at hl 0 rfl) ?_
  refine lv_aload_n hx hb dX15_foundBy_1 rfl (lv_at hl 0 rfl) ?_
  refine lv_iload_n hx hb dX15_foundBy_2 rfl (lv_at hl 1 rfl) ?_
  have hPc : va_P D vwCl [((a 200), f_m a g), ((a 204), .inr (5, [.int 0, .ref (g 100), .int 0]))] _ := hP.sub (ws' := [((a 200), f_m a g), ((a 204), .inr (5, [.int 0, .ref (g 100), .int 0]))]) [0, 1] rfl
  have hDc : va_D (fun q => z0 ≤ q) [((a 200), f_m a g), ((a 204), .inr (5, [.int 0, .ref (g 100), .int 0]))] := (hD.to hAz).pick (ws' := [((a 200), f_m a g), ((a 204), .inr (5, [.int 0, .ref (g 100), .int 0]))]) [0, 1] (by decide) rfl
  have hFc := AnA (ws := [((a 200), f_m a g), ((a 204), .inr (5, [.int 0, .ref (g 100), .int 0]))]) hS.1
  refine va_calli (va_runV (As := [.int p0]) (rest := [.ref (a 200)]) ⟨hx, hb, hml, hown, ht⟩ (k_X15_isFault l D g z0 _ a p0) (cwV 1 ht (gV w_372 w_374 w_375 w_334 w_373) rfl rfl rfl (by decide +kernel) (le2 rfl rfl)) ⟨PP.blind, va_recv hK.1 hP (ci := 21) (q0 := 0) rfl rfl, PP.mk' hK hZ hz hAz hS hPc hDc⟩ rfl rfl hl.1 rfl (lv_room (Nat.le_of_ble_eq_true rfl)) dX15_foundBy_3 (le2 rfl rfl)) hS (fun q _ h => hFc q h) hFc (fun r u t H locs ht1 hvm hw hB hz1 hk1 hS => ?_)
  obtain ⟨rfl, hw⟩ := hw
  have hP := ro1 hP hk1
  refine lv_if_eq (tgt := 13) hx hb dX15_foundBy_6 (by decide) (fun c_1 => ?_) (fun c_1 => ?_)
  · refine lv_iconst (v := 1) hx hb dX15_foundBy_13 (by decide) ?_
    have hPc : va_P D vwCl [((a 200), f_m a g)] _ := hP.sub (ws' := [((a 200), f_m a g)]) [0] rfl
    have hDc : va_D (fun q => z0 ≤ q) [((a 200), f_m a g)] := (hD.to hAz).pick (ws' := [((a 200), f_m a g)]) [0] (by decide) rfl
    have hFc := va_free (wc := [((a 200), f_m a g)]) hD hS hA [0] rfl
    refine va_calli (va_runV (As := [.int 1]) (rest := []) ⟨hx, hb, hml, hown, ht⟩ (k_X15_isWrong l D g z0 _ a) (cwV 1 ht (gV w_376 w_378 w_379 w_334 w_377) rfl rfl rfl (by decide +kernel) (le2 rfl rfl)) ⟨PP.blind, va_recv hK.1 hP (ci := 21) (q0 := 0) rfl rfl, PP.mk' hK hZ hz hAz hS hPc hDc⟩ rfl rfl hl.1 rfl (lv_room (Nat.le_of_ble_eq_true rfl)) dX15_foundBy_14 (le2 rfl rfl)) hS (fun q _ h => hFc q h) hFc (fun r u t H locs ht1 hvm hw hB hz1 hk1 hS => ?_)
    obtain ⟨rfl, hw⟩ := hw
    obtain ⟨hP1, hD1⟩ := hB
    rw [ht1] at hP1
    obtain ⟨hP, hD⟩ := va_join (wr := [((a 204), .inr (5, [.int 0, .ref (g 100), .int 0]))]) (w1 := [((a 200), .inr (21, [.int 1, .ref (a 201), .ref (a 202), .ref (a 203), .ref (a 204), .ref (a 205), .ref (a 206), .int 0, .int 0, .int 0, .int 0, .ref (a 208), .ref (a 209), .ref (a 210), .ref (a 211), .ref (a 212), .int 4, .int 12, .int (-1), .int 0, .ref (g 200), .ref (a 213), .int 0, .int 97, .ref (a 214), .ref (a 215), .ref (a 207), .null, .int 0]))]) hP hD [0] [1] rfl rfl (by decide) (by decide) hk1 hFc hP1 hD1
    have hP : va_P D vwCl [((a 204), .inr (5, [.int 0, .ref (g 100), .int 0])), ((a 200), .inr (21, [.int 1, .ref (a 201), .ref (a 202), .ref (a 203), .ref (a 204), .ref (a 205), .ref (a 206), .int 0, .int 0, .int 0, .int 0, .ref (a 208), .ref (a 209), .ref (a 210), .ref (a 211), .ref (a 212), .int 4, .int 12, .int (-1), .int 0, .ref (g 200), .ref (a 213), .int 0, .int 97, .ref (a 214), .ref (a 215), .ref (a 207), .null, .int 0]))] H := hP
    have hD : va_D (va_A [((a 200), f_m a g), ((a 204), .inr (5, [.int 0, .ref (g 100), .int 0]))] s.heap.size) [((a 204), .inr (5, [.int 0, .ref (g 100), .int 0])), ((a 200), .inr (21, [.int 1, .ref (a 201), .ref (a 202), .ref (a 203), .ref (a 204), .ref (a 205), .ref (a 206), .int 0, .int 0, .int 0, .int 0, .ref (a 208), .ref (a 209), .ref (a 210), .ref (a 211), .ref (a 212), .int 4, .int 12, .int (-1), .int 0, .ref (g 200), .ref (a 213), .int 0, .int 97, .ref (a 214), .ref (a 215), .ref (a 207), .null, .int 0]))] := hD
    refine lv_if_eq (tgt := 24) hx hb dX15_foundBy_17 (by decide) (fun c_2 => ?_) (fun c_2 => ?_)
    · exact absurd c_2 (by decide)
    · refine lv_lconst (v := 0) hx hb dX15_foundBy_20 (by decide) ?_
      refine lv_goto (tgt := 31) hx hb dX15_foundBy_21 (by decide) ?_
      have hP9 := hP.sub (ws' := [((a 200), .inr (21, [.int 1, .ref (a 201), .ref (a 202), .ref (a 203), .ref (a 204), .ref (a 205), .ref (a 206), .int 0, .int 0, .int 0, .int 0, .ref (a 208), .ref (a 209), .ref (a 210), .ref (a 211), .ref (a 212), .int 4, .int 12, .int (-1), .int 0, .ref (g 200), .ref (a 213), .int 0, .int 97, .ref (a 214), .ref (a 215), .ref (a 207), .null, .int 0]))]) [1] rfl
      have hD9 := hD.sub (ws' := [((a 200), .inr (21, [.int 1, .ref (a 201), .ref (a 202), .ref (a 203), .ref (a 204), .ref (a 205), .ref (a 206), .int 0, .int 0, .int 0, .int 0, .ref (a 208), .ref (a 209), .ref (a 210), .ref (a 211), .ref (a 212), .int 4, .int 12, .int (-1), .int 0, .ref (g 200), .ref (a 213), .int 0, .int 97, .ref (a 214), .ref (a 215), .ref (a 207), .null, .int 0]))]) [1] (by decide) rfl
      refine W.widen (k := 0) (n := 0) (Nat.le_of_ble_eq_true rfl) (Nat.le_of_ble_eq_true rfl) ?_
      exact W.lret (v := 0) hx hb hr (fun t ht9 hW9 => ⟨⟨0, (), rfl, ⟨rfl, trivial⟩, ⟨(by rw [ht9]; exact hP9), hD9⟩⟩, hS.F ht9⟩) hS.2.2 dX15_foundBy_31 hlocks
  · exact absurd c_1 (by decide)
