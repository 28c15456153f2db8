theorem w_518 : Cond.fieldLink RX15 29 "StuckatBenchModel" "chip" "Ljava/util/List;" ∈ TG := tg (sg_9 _ (List.mem_of_getElem? (i := 118) (by decide +kernel))) (by decide +kernel)
theorem w_519 : Cond.methodLink RX15 370 ⟨"java/util/List", "clear", "()V"⟩ ∈ TG := tg (sg_12 _ (List.mem_of_getElem? (i := 107) (by decide +kernel))) (by decide +kernel)
theorem w_520 : Cond.code yJx4a65c_clear_da8c8 cJx4a65c_clear_da8c8 4 none ∈ TG := tg (sg_12 _ (List.mem_of_getElem? (i := 114) (by decide +kernel))) (by decide +kernel)
theorem w_521 : Cond.selects RJx4a65c ⟨"java/util/List", "clear", "()V"⟩ yJx4a65c_clear_da8c8 ∈ TG := tg (sg_12 _ (List.mem_of_getElem? (i := 110) (by decide +kernel))) (by decide +kernel)
theorem w_522 : Cond.instanceMethod yJx4a65c_clear_da8c8 ∈ TG := tg (sg_12 _ (List.mem_of_getElem? (i := 112) (by decide +kernel))) (by decide +kernel)
theorem dJx4a65c_clear_da8c8_0 : decode cJx4a65c_clear_da8c8 0 = .ok (.aload_n 0, 1) := by decide +kernel
theorem dJx4a65c_clear_da8c8_1 : decode cJx4a65c_clear_da8c8 1 = .ok (.dup, 1) := by decide +kernel
theorem dJx4a65c_clear_da8c8_2 : decode cJx4a65c_clear_da8c8 2 = .ok (.getfield 63, 3) := by decide +kernel
theorem dJx4a65c_clear_da8c8_5 : decode cJx4a65c_clear_da8c8 5 = .ok (.iconst 1, 1) := by decide +kernel
theorem dJx4a65c_clear_da8c8_6 : decode cJx4a65c_clear_da8c8 6 = .ok (.iadd, 1) := by decide +kernel
theorem dJx4a65c_clear_da8c8_7 : decode cJx4a65c_clear_da8c8 7 = .ok (.putfield 63, 3) := by decide +kernel
theorem dJx4a65c_clear_da8c8_10 : decode cJx4a65c_clear_da8c8 10 = .ok (.aload_n 0, 1) := by decide +kernel
theorem dJx4a65c_clear_da8c8_11 : decode cJx4a65c_clear_da8c8 11 = .ok (.getfield 9, 3) := by decide +kernel
theorem dJx4a65c_clear_da8c8_14 : decode cJx4a65c_clear_da8c8 14 = .ok (.astore_n 1, 1) := by decide +kernel
theorem dJx4a65c_clear_da8c8_15 : decode cJx4a65c_clear_da8c8 15 = .ok (.aload_n 0, 1) := by decide +kernel
theorem dJx4a65c_clear_da8c8_16 : decode cJx4a65c_clear_da8c8 16 = .ok (.getfield 48, 3) := by decide +kernel
theorem dJx4a65c_clear_da8c8_19 : decode cJx4a65c_clear_da8c8 19 = .ok (.istore_n 2, 1) := by decide +kernel
theorem dJx4a65c_clear_da8c8_20 : decode cJx4a65c_clear_da8c8 20 = .ok (.aload_n 0, 1) := by decide +kernel
theorem dJx4a65c_clear_da8c8_21 : decode cJx4a65c_clear_da8c8 21 = .ok (.iconst 0, 1) := by decide +kernel
theorem dJx4a65c_clear_da8c8_22 : decode cJx4a65c_clear_da8c8 22 = .ok (.dup_x1, 1) := by decide +kernel
theorem dJx4a65c_clear_da8c8_23 : decode cJx4a65c_clear_da8c8 23 = .ok (.putfield 48, 3) := by decide +kernel
theorem dJx4a65c_clear_da8c8_26 : decode cJx4a65c_clear_da8c8 26 = .ok (.istore_n 3, 1) := by decide +kernel
theorem dJx4a65c_clear_da8c8_27 : decode cJx4a65c_clear_da8c8 27 = .ok (.iload_n 3, 1) := by decide +kernel
theorem dJx4a65c_clear_da8c8_28 : decode cJx4a65c_clear_da8c8 28 = .ok (.iload_n 2, 1) := by decide +kernel
theorem dJx4a65c_clear_da8c8_29 : decode cJx4a65c_clear_da8c8 29 = .ok (.if_icmp .ge 13, 3) := by decide +kernel
theorem dJx4a65c_clear_da8c8_32 : decode cJx4a65c_clear_da8c8 32 = .ok (.aload_n 1, 1) := by decide +kernel
theorem dJx4a65c_clear_da8c8_33 : decode cJx4a65c_clear_da8c8 33 = .ok (.iload_n 3, 1) := by decide +kernel
theorem dJx4a65c_clear_da8c8_34 : decode cJx4a65c_clear_da8c8 34 = .ok (.aconst_null, 1) := by decide +kernel
theorem dJx4a65c_clear_da8c8_35 : decode cJx4a65c_clear_da8c8 35 = .ok (.aastore, 1) := by decide +kernel
theorem dJx4a65c_clear_da8c8_36 : decode cJx4a65c_clear_da8c8 36 = .ok (.iinc 3 1, 3) := by decide +kernel
theorem dJx4a65c_clear_da8c8_39 : decode cJx4a65c_clear_da8c8 39 = .ok (.goto (-12), 3) := by decide +kernel
theorem dJx4a65c_clear_da8c8_42 : decode cJx4a65c_clear_da8c8 42 = .ok (.return_, 1) := by decide +kernel
theorem dX15_meanFound_0 : decode cX15_meanFound 0 = .ok (.aload_n 0, 1) := by decide +kernel
theorem dX15_meanFound_1 : decode cX15_meanFound 1 = .ok (.invokevirtual 318, 3) := by decide +kernel
theorem dX15_meanFound_4 : decode cX15_meanFound 4 = .ok (.astore_n 1, 1) := by decide +kernel
theorem dX15_meanFound_5 : decode cX15_meanFound 5 = .ok (.iconst 0, 1) := by decide +kernel
theorem dX15_meanFound_6 : decode cX15_meanFound 6 = .ok (.istore_n 2, 1) := by decide +kernel
theorem dX15_meanFound_7 : decode cX15_meanFound 7 = .ok (.aload_n 1, 1) := by decide +kernel
theorem dX15_meanFound_8 : decode cX15_meanFound 8 = .ok (.invokeinterface 156 1, 5) := by decide +kernel
theorem dX15_meanFound_13 : decode cX15_meanFound 13 = .ok (.astore_n 3, 1) := by decide +kernel
theorem dX15_meanFound_14 : decode cX15_meanFound 14 = .ok (.aload_n 3, 1) := by decide +kernel
theorem dX15_meanFound_15 : decode cX15_meanFound 15 = .ok (.invokeinterface 160 1, 5) := by decide +kernel
theorem dX15_meanFound_20 : decode cX15_meanFound 20 = .ok (.ifCond .eq 34, 3) := by decide +kernel
theorem dX15_meanFound_23 : decode cX15_meanFound 23 = .ok (.aload_n 3, 1) := by decide +kernel
theorem dX15_meanFound_24 : decode cX15_meanFound 24 = .ok (.invokeinterface 166 1, 5) := by decide +kernel
theorem dX15_meanFound_29 : decode cX15_meanFound 29 = .ok (.checkcast 119, 3) := by decide +kernel
theorem dX15_meanFound_32 : decode cX15_meanFound 32 = .ok (.invokevirtual 194, 3) := by decide +kernel
theorem dX15_meanFound_35 : decode cX15_meanFound 35 = .ok (.istore 4, 2) := by decide +kernel
theorem dX15_meanFound_37 : decode cX15_meanFound 37 = .ok (.iload_n 2, 1) := by decide +kernel
theorem dX15_meanFound_38 : decode cX15_meanFound 38 = .ok (.aload_n 0, 1) := by decide +kernel
theorem dX15_meanFound_39 : decode cX15_meanFound 39 = .ok (.iload 4, 2) := by decide +kernel
theorem dX15_meanFound_41 : decode cX15_meanFound 41 = .ok (.bipush 115, 2) := by decide +kernel
theorem dX15_meanFound_43 : decode cX15_meanFound 43 = .ok (.invokevirtual 345, 3) := by decide +kernel
theorem dX15_meanFound_46 : decode cX15_meanFound 46 = .ok (.invokestatic 407, 3) := by decide +kernel
theorem dX15_meanFound_49 : decode cX15_meanFound 49 = .ok (.iadd, 1) := by decide +kernel
theorem dX15_meanFound_50 : decode cX15_meanFound 50 = .ok (.istore_n 2, 1) := by decide +kernel
theorem dX15_meanFound_51 : decode cX15_meanFound 51 = .ok (.goto (-37), 3) := by decide +kernel
theorem dX15_meanFound_54 : decode cX15_meanFound 54 = .ok (.aload_n 0, 1) := by decide +kernel
theorem dX15_meanFound_55 : decode cX15_meanFound 55 = .ok (.aload_n 1, 1) := by decide +kernel
theorem dX15_meanFound_56 : decode cX15_meanFound 56 = .ok (.invokeinterface 349 1, 5) := by decide +kernel
theorem dX15_meanFound_61 : decode cX15_meanFound 61 = .ok (.ifCond .eq 7, 3) := by decide +kernel
theorem dX15_meanFound_64 : decode cX15_meanFound 64 = .ok (.iconst 1, 1) := by decide +kernel
theorem dX15_meanFound_65 : decode cX15_meanFound 65 = .ok (.goto 4, 3) := by decide +kernel
theorem dX15_meanFound_68 : decode cX15_meanFound 68 = .ok (.iconst 0, 1) := by decide +kernel
theorem dX15_meanFound_69 : decode cX15_meanFound 69 = .ok (.invokevirtual 106, 3) := by decide +kernel
theorem dX15_meanFound_72 : decode cX15_meanFound 72 = .ok (.ifCond .eq 7, 3) := by decide +kernel
theorem dX15_meanFound_75 : decode cX15_meanFound 75 = .ok (.dconst 0, 1) := by decide +kernel
theorem dX15_meanFound_76 : decode cX15_meanFound 76 = .ok (.goto 13, 3) := by decide +kernel
theorem dX15_meanFound_79 : decode cX15_meanFound 79 = .ok (.iload_n 2, 1) := by decide +kernel
theorem dX15_meanFound_80 : decode cX15_meanFound 80 = .ok (.i2d, 1) := by decide +kernel
theorem dX15_meanFound_81 : decode cX15_meanFound 81 = .ok (.aload_n 1, 1) := by decide +kernel
theorem dX15_meanFound_82 : decode cX15_meanFound 82 = .ok (.invokeinterface 92 1, 5) := by decide +kernel
theorem dX15_meanFound_87 : decode cX15_meanFound 87 = .ok (.i2d, 1) := by decide +kernel
theorem dX15_meanFound_88 : decode cX15_meanFound 88 = .ok (.ddiv, 1) := by decide +kernel
theorem dX15_meanFound_89 : decode cX15_meanFound 89 = .ok (.dreturn, 1) := by decide +kernel
theorem dX15_mend_0 : decode cX15_mend 0 = .ok (.aload_n 0, 1) := by decide +kernel
theorem dX15_mend_1 : decode cX15_mend 1 = .ok (.iconst 0, 1) := by decide +kernel
theorem dX15_mend_2 : decode cX15_mend 2 = .ok (.putfield 1, 3) := by decide +kernel
theorem dX15_mend_5 : decode cX15_mend 5 = .ok (.aload_n 0, 1) := by decide +kernel
theorem dX15_mend_6 : decode cX15_mend 6 = .ok (.getfield 29, 3) := by decide +kernel
theorem dX15_mend_9 : decode cX15_mend 9 = .ok (.invokeinterface 92 1, 5) := by decide +kernel
theorem dX15_mend_14 : decode cX15_mend 14 = .ok (.istore_n 1, 1) := by decide +kernel
theorem dX15_mend_15 : decode cX15_mend 15 = .ok (.aload_n 0, 1) := by decide +kernel
theorem dX15_mend_16 : decode cX15_mend 16 = .ok (.getfield 29, 3) := by decide +kernel
theorem dX15_mend_19 : decode cX15_mend 19 = .ok (.invokeinterface 370 1, 5) := by decide +kernel
theorem dX15_mend_24 : decode cX15_mend 24 = .ok (.iload_n 1, 1) := by decide +kernel
theorem dX15_mend_25 : decode cX15_mend 25 = .ok (.ireturn, 1) := by decide +kernel
theorem dX15_merge_0 : decode cX15_merge 0 = .ok (.aload_n 0, 1) := by decide +kernel
theorem dX15_merge_1 : decode cX15_merge 1 = .ok (.aload_n 0, 1) := by decide +kernel
theorem dX15_merge_2 : decode cX15_merge 2 = .ok (.iload_n 1, 1) := by decide +kernel
theorem dX15_merge_3 : decode cX15_merge 3 = .ok (.invokevirtual 283, 3) := by decide +kernel
theorem dX15_merge_6 : decode cX15_merge 6 = .ok (.ifCond .eq 11, 3) := by decide +kernel
theorem dX15_merge_9 : decode cX15_merge 9 = .ok (.aload_n 0, 1) := by decide +kernel
theorem dX15_merge_10 : decode cX15_merge 10 = .ok (.iload_n 2, 1) := by decide +kernel
theorem dX15_merge_11 : decode cX15_merge 11 = .ok (.invokevirtual 283, 3) := by decide +kernel
theorem dX15_merge_14 : decode cX15_merge 14 = .ok (.ifCond .ne 7, 3) := by decide +kernel
theorem dX15_merge_17 : decode cX15_merge 17 = .ok (.iconst 1, 1) := by decide +kernel
theorem dX15_merge_18 : decode cX15_merge 18 = .ok (.goto 45, 3) := by decide +kernel
theorem dX15_merge_21 : decode cX15_merge 21 = .ok (.iload_n 1, 1) := by decide +kernel
theorem dX15_merge_22 : decode cX15_merge 22 = .ok (.iload_n 2, 1) := by decide +kernel
theorem dX15_merge_23 : decode cX15_merge 23 = .ok (.if_icmp .eq 35, 3) := by decide +kernel
theorem dX15_merge_26 : decode cX15_merge 26 = .ok (.aload_n 0, 1) := by decide +kernel
theorem dX15_merge_27 : decode cX15_merge 27 = .ok (.getfield 32, 3) := by decide +kernel
theorem dX15_merge_30 : decode cX15_merge 30 = .ok (.iload_n 1, 1) := by decide +kernel
theorem dX15_merge_31 : decode cX15_merge 31 = .ok (.invokeinterface 143 2, 5) := by decide +kernel
theorem dX15_merge_36 : decode cX15_merge 36 = .ok (.checkcast 200, 3) := by decide +kernel
theorem dX15_merge_39 : decode cX15_merge 39 = .ok (.aload_n 0, 1) := by decide +kernel
theorem dX15_merge_40 : decode cX15_merge 40 = .ok (.getfield 32, 3) := by decide +kernel
theorem dX15_merge_43 : decode cX15_merge 43 = .ok (.iload_n 2, 1) := by decide +kernel
theorem dX15_merge_44 : decode cX15_merge 44 = .ok (.invokeinterface 143 2, 5) := by decide +kernel
theorem dX15_merge_49 : decode cX15_merge 49 = .ok (.checkcast 200, 3) := by decide +kernel
theorem dX15_merge_52 : decode cX15_merge 52 = .ok (.invokestatic 359, 3) := by decide +kernel
theorem dX15_merge_55 : decode cX15_merge 55 = .ok (.ifCond .ne 7, 3) := by decide +kernel
theorem dX15_merge_58 : decode cX15_merge 58 = .ok (.iconst 2, 1) := by decide +kernel
theorem dX15_merge_59 : decode cX15_merge 59 = .ok (.goto 4, 3) := by decide +kernel
theorem dX15_merge_62 : decode cX15_merge 62 = .ok (.iconst 0, 1) := by decide +kernel
theorem dX15_merge_63 : decode cX15_merge 63 = .ok (.invokevirtual 106, 3) := by decide +kernel
theorem dX15_merge_66 : decode cX15_merge 66 = .ok (.ifCond .eq 5, 3) := by decide +kernel
theorem dX15_merge_69 : decode cX15_merge 69 = .ok (.iconst 0, 1) := by decide +kernel
theorem dX15_merge_70 : decode cX15_merge 70 = .ok (.ireturn, 1) := by decide +kernel
theorem dX15_merge_71 : decode cX15_merge 71 = .ok (.aload_n 0, 1) := by decide +kernel
theorem dX15_merge_72 : decode cX15_merge 72 = .ok (.getfield 32, 3) := by decide +kernel
theorem dX15_merge_75 : decode cX15_merge 75 = .ok (.iload_n 1, 1) := by decide +kernel
theorem dX15_merge_76 : decode cX15_merge 76 = .ok (.invokeinterface 143 2, 5) := by decide +kernel
theorem dX15_merge_81 : decode cX15_merge 81 = .ok (.checkcast 200, 3) := by decide +kernel
theorem dX15_merge_84 : decode cX15_merge 84 = .ok (.aload_n 0, 1) := by decide +kernel
theorem dX15_merge_85 : decode cX15_merge 85 = .ok (.getfield 32, 3) := by decide +kernel
theorem dX15_merge_88 : decode cX15_merge 88 = .ok (.iload_n 2, 1) := by decide +kernel
theorem dX15_merge_89 : decode cX15_merge 89 = .ok (.invokeinterface 143 2, 5) := by decide +kernel
theorem dX15_merge_94 : decode cX15_merge 94 = .ok (.checkcast 200, 3) := by decide +kernel
theorem dX15_merge_97 : decode cX15_merge 97 = .ok (.invokestatic 363, 3) := by decide +kernel
theorem dX15_merge_100 : decode cX15_merge 100 = .ok (.aload_n 0, 1) := by decide +kernel
theorem dX15_merge_101 : decode cX15_merge 101 = .ok (.getfield 32, 3) := by decide +kernel
theorem dX15_merge_104 : decode cX15_merge 104 = .ok (.iload_n 2, 1) := by decide +kernel
theorem dX15_merge_105 : decode cX15_merge 105 = .ok (.invokeinterface 367 2, 5) := by decide +kernel
theorem dX15_merge_110 : decode cX15_merge 110 = .ok (.pop, 1) := by decide +kernel
theorem dX15_merge_111 : decode cX15_merge 111 = .ok (.aload_n 0, 1) := by decide +kernel
theorem dX15_merge_112 : decode cX15_merge 112 = .ok (.getfield 32, 3) := by decide +kernel
theorem dX15_merge_115 : decode cX15_merge 115 = .ok (.invokeinterface 92 1, 5) := by decide +kernel
theorem dX15_merge_120 : decode cX15_merge 120 = .ok (.ireturn, 1) := by decide +kernel
theorem dX15_openWire_0 : decode cX15_openWire 0 = .ok (.aload_n 0, 1) := by decide +kernel
theorem dX15_openWire_1 : decode cX15_openWire 1 = .ok (.aload_n 0, 1) := by decide +kernel
theorem dX15_openWire_2 : decode cX15_openWire 2 = .ok (.iload_n 1, 1) := by decide +kernel
theorem dX15_openWire_3 : decode cX15_openWire 3 = .ok (.invokevirtual 498, 3) := by decide +kernel
theorem dX15_openWire_6 : decode cX15_openWire 6 = .ok (.ifCond .ne 7, 3) := by decide +kernel
theorem dX15_openWire_9 : decode cX15_openWire 9 = .ok (.iconst 1, 1) := by decide +kernel
theorem dX15_openWire_10 : decode cX15_openWire 10 = .ok (.goto 17, 3) := by decide +kernel
theorem dX15_openWire_13 : decode cX15_openWire 13 = .ok (.iload_n 2, 1) := by decide +kernel
theorem dX15_openWire_14 : decode cX15_openWire 14 = .ok (.iconst 0, 1) := by decide +kernel
theorem dX15_openWire_15 : decode cX15_openWire 15 = .ok (.iconst 1, 1) := by decide +kernel
theorem dX15_openWire_16 : decode cX15_openWire 16 = .ok (.invokestatic 98, 3) := by decide +kernel
theorem dX15_openWire_19 : decode cX15_openWire 19 = .ok (.ifCond .ne 7, 3) := by decide +kernel
theorem dX15_openWire_22 : decode cX15_openWire 22 = .ok (.iconst 2, 1) := by decide +kernel
theorem dX15_openWire_23 : decode cX15_openWire 23 = .ok (.goto 4, 3) := by decide +kernel
theorem dX15_openWire_26 : decode cX15_openWire 26 = .ok (.iconst 0, 1) := by decide +kernel
theorem dX15_openWire_27 : decode cX15_openWire 27 = .ok (.invokevirtual 106, 3) := by decide +kernel
theorem dX15_openWire_30 : decode cX15_openWire 30 = .ok (.ifCond .eq 5, 3) := by decide +kernel
theorem dX15_openWire_33 : decode cX15_openWire 33 = .ok (.iconst 0, 1) := by decide +kernel
theorem dX15_openWire_34 : decode cX15_openWire 34 = .ok (.ireturn, 1) := by decide +kernel
theorem dX15_openWire_35 : decode cX15_openWire 35 = .ok (.aload_n 0, 1) := by decide +kernel
theorem dX15_openWire_36 : decode cX15_openWire 36 = .ok (.getfield 77, 3) := by decide +kernel
theorem dX15_openWire_39 : decode cX15_openWire 39 = .ok (.iload_n 1, 1) := by decide +kernel
theorem dX15_openWire_40 : decode cX15_openWire 40 = .ok (.iaload, 1) := by decide +kernel
theorem dX15_openWire_41 : decode cX15_openWire 41 = .ok (.iconst (-1), 1) := by decide +kernel
theorem dX15_openWire_42 : decode cX15_openWire 42 = .ok (.if_icmp .ne 7, 3) := by decide +kernel
theorem dX15_openWire_45 : decode cX15_openWire 45 = .ok (.iconst 1, 1) := by decide +kernel
theorem dX15_openWire_46 : decode cX15_openWire 46 = .ok (.goto 4, 3) := by decide +kernel
theorem dX15_openWire_49 : decode cX15_openWire 49 = .ok (.iconst 0, 1) := by decide +kernel
theorem dX15_openWire_50 : decode cX15_openWire 50 = .ok (.istore_n 3, 1) := by decide +kernel
theorem dX15_openWire_51 : decode cX15_openWire 51 = .ok (.aload_n 0, 1) := by decide +kernel
theorem dX15_openWire_52 : decode cX15_openWire 52 = .ok (.getfield 77, 3) := by decide +kernel
theorem dX15_openWire_55 : decode cX15_openWire 55 = .ok (.iload_n 1, 1) := by decide +kernel
theorem dX15_openWire_56 : decode cX15_openWire 56 = .ok (.iload_n 2, 1) := by decide +kernel
theorem dX15_openWire_57 : decode cX15_openWire 57 = .ok (.iastore, 1) := by decide +kernel
theorem dX15_openWire_58 : decode cX15_openWire 58 = .ok (.iload_n 3, 1) := by decide +kernel
theorem dX15_openWire_59 : decode cX15_openWire 59 = .ok (.ireturn, 1) := by decide +kernel
theorem dX15_orderAt_0 : decode cX15_orderAt 0 = .ok (.aload_n 0, 1) := by decide +kernel
theorem dX15_orderAt_1 : decode cX15_orderAt 1 = .ok (.iload_n 1, 1) := by decide +kernel
theorem dX15_orderAt_2 : decode cX15_orderAt 2 = .ok (.iconst 0, 1) := by decide +kernel
theorem dX15_orderAt_3 : decode cX15_orderAt 3 = .ok (.aload_n 0, 1) := by decide +kernel
theorem dX15_orderAt_4 : decode cX15_orderAt 4 = .ok (.getfield 32, 3) := by decide +kernel
theorem dX15_orderAt_7 : decode cX15_orderAt 7 = .ok (.invokeinterface 92 1, 5) := by decide +kernel
theorem dX15_orderAt_12 : decode cX15_orderAt 12 = .ok (.iconst 1, 1) := by decide +kernel
theorem dX15_orderAt_13 : decode cX15_orderAt 13 = .ok (.isub, 1) := by decide +kernel
theorem dX15_orderAt_14 : decode cX15_orderAt 14 = .ok (.invokestatic 98, 3) := by decide +kernel
theorem dX15_orderAt_17 : decode cX15_orderAt 17 = .ok (.ifCond .eq 7, 3) := by decide +kernel
theorem dX15_orderAt_20 : decode cX15_orderAt 20 = .ok (.iconst 0, 1) := by decide +kernel
theorem dX15_orderAt_21 : decode cX15_orderAt 21 = .ok (.goto 4, 3) := by decide +kernel
theorem dX15_orderAt_24 : decode cX15_orderAt 24 = .ok (.iconst 1, 1) := by decide +kernel
theorem dX15_orderAt_25 : decode cX15_orderAt 25 = .ok (.invokevirtual 106, 3) := by decide +kernel
theorem dX15_orderAt_28 : decode cX15_orderAt 28 = .ok (.ifCond .eq 7, 3) := by decide +kernel
theorem dX15_orderAt_31 : decode cX15_orderAt 31 = .ok (.iconst 0, 1) := by decide +kernel
theorem dX15_orderAt_32 : decode cX15_orderAt 32 = .ok (.goto 19, 3) := by decide +kernel
theorem dX15_orderAt_35 : decode cX15_orderAt 35 = .ok (.aload_n 0, 1) := by decide +kernel
theorem dX15_orderAt_36 : decode cX15_orderAt 36 = .ok (.invokevirtual 445, 3) := by decide +kernel
theorem dX15_orderAt_39 : decode cX15_orderAt 39 = .ok (.iload_n 1, 1) := by decide +kernel
theorem dX15_orderAt_40 : decode cX15_orderAt 40 = .ok (.invokeinterface 143 2, 5) := by decide +kernel
theorem dX15_orderAt_45 : decode cX15_orderAt 45 = .ok (.checkcast 119, 3) := by decide +kernel
theorem dX15_orderAt_48 : decode cX15_orderAt 48 = .ok (.invokevirtual 194, 3) := by decide +kernel
theorem dX15_orderAt_51 : decode cX15_orderAt 51 = .ok (.ireturn, 1) := by decide +kernel
theorem dX15_output_0 : decode cX15_output 0 = .ok (.aload_n 0, 1) := by decide +kernel
theorem dX15_output_1 : decode cX15_output 1 = .ok (.aload_n 0, 1) := by decide +kernel
theorem dX15_output_2 : decode cX15_output 2 = .ok (.iload_n 1, 1) := by decide +kernel
theorem dX15_output_3 : decode cX15_output 3 = .ok (.invokevirtual 140, 3) := by decide +kernel
theorem dX15_output_6 : decode cX15_output 6 = .ok (.ifCond .ne 7, 3) := by decide +kernel
theorem dX15_output_9 : decode cX15_output 9 = .ok (.iconst 1, 1) := by decide +kernel
theorem dX15_output_10 : decode cX15_output 10 = .ok (.goto 15, 3) := by decide +kernel
theorem dX15_output_13 : decode cX15_output 13 = .ok (.aload_n 0, 1) := by decide +kernel
theorem dX15_output_14 : decode cX15_output 14 = .ok (.getfield 102, 3) := by decide +kernel
theorem dX15_output_17 : decode cX15_output 17 = .ok (.ifCond .eq 7, 3) := by decide +kernel
theorem dX15_output_20 : decode cX15_output 20 = .ok (.iconst 2, 1) := by decide +kernel
theorem dX15_output_21 : decode cX15_output 21 = .ok (.goto 4, 3) := by decide +kernel
theorem dX15_output_24 : decode cX15_output 24 = .ok (.iconst 0, 1) := by decide +kernel
theorem dX15_output_25 : decode cX15_output 25 = .ok (.invokevirtual 106, 3) := by decide +kernel
theorem dX15_output_28 : decode cX15_output 28 = .ok (.ifCond .eq 5, 3) := by decide +kernel
theorem dX15_output_31 : decode cX15_output 31 = .ok (.iconst 0, 1) := by decide +kernel
theorem dX15_output_32 : decode cX15_output 32 = .ok (.ireturn, 1) := by decide +kernel
theorem dX15_output_33 : decode cX15_output 33 = .ok (.aload_n 0, 1) := by decide +kernel
theorem dX15_output_34 : decode cX15_output 34 = .ok (.getfield 16, 3) := by decide +kernel
theorem dX15_output_37 : decode cX15_output 37 = .ok (.iload_n 1, 1) := by decide +kernel
theorem dX15_output_38 : decode cX15_output 38 = .ok (.invokeinterface 143 2, 5) := by decide +kernel
theorem dX15_output_43 : decode cX15_output 43 = .ok (.checkcast 110, 3) := by decide +kernel
theorem dX15_output_46 : decode cX15_output 46 = .ok (.getfield 153, 3) := by decide +kernel
theorem dX15_output_49 : decode cX15_output 49 = .ok (.ifCond .ne 7, 3) := by decide +kernel
theorem dX15_output_52 : decode cX15_output 52 = .ok (.iconst 1, 1) := by decide +kernel
theorem dX15_output_53 : decode cX15_output 53 = .ok (.goto 4, 3) := by decide +kernel
theorem dX15_output_56 : decode cX15_output 56 = .ok (.iconst 0, 1) := by decide +kernel
theorem dX15_output_57 : decode cX15_output 57 = .ok (.istore_n 2, 1) := by decide +kernel
theorem dX15_output_58 : decode cX15_output 58 = .ok (.aload_n 0, 1) := by decide +kernel
theorem dX15_output_59 : decode cX15_output 59 = .ok (.getfield 16, 3) := by decide +kernel
theorem dX15_output_62 : decode cX15_output 62 = .ok (.iload_n 1, 1) := by decide +kernel
theorem dX15_output_63 : decode cX15_output 63 = .ok (.invokeinterface 143 2, 5) := by decide +kernel
theorem dX15_output_68 : decode cX15_output 68 = .ok (.checkcast 110, 3) := by decide +kernel
theorem dX15_output_71 : decode cX15_output 71 = .ok (.iconst 1, 1) := by decide +kernel
theorem dX15_output_72 : decode cX15_output 72 = .ok (.putfield 153, 3) := by decide +kernel
theorem dX15_output_75 : decode cX15_output 75 = .ok (.iload_n 2, 1) := by decide +kernel
theorem dX15_output_76 : decode cX15_output 76 = .ok (.ireturn, 1) := by decide +kernel
theorem dX15_pattern_0 : decode cX15_pattern 0 = .ok (.iconst 1, 1) := by decide +kernel
theorem dX15_pattern_1 : decode cX15_pattern 1 = .ok (.aload_n 0, 1) := by decide +kernel
theorem dX15_pattern_2 : decode cX15_pattern 2 = .ok (.getfield 20, 3) := by decide +kernel
theorem dX15_pattern_5 : decode cX15_pattern 5 = .ok (.invokeinterface 92 1, 5) := by decide +kernel
theorem dX15_pattern_10 : decode cX15_pattern 10 = .ok (.ishl, 1) := by decide +kernel
theorem dX15_pattern_11 : decode cX15_pattern 11 = .ok (.iconst 1, 1) := by decide +kernel
theorem dX15_pattern_12 : decode cX15_pattern 12 = .ok (.isub, 1) := by decide +kernel
theorem dX15_pattern_13 : decode cX15_pattern 13 = .ok (.istore_n 3, 1) := by decide +kernel
theorem dX15_pattern_14 : decode cX15_pattern 14 = .ok (.iload_n 1, 1) := by decide +kernel
theorem dX15_pattern_15 : decode cX15_pattern 15 = .ok (.iconst 0, 1) := by decide +kernel
theorem dX15_pattern_16 : decode cX15_pattern 16 = .ok (.iload_n 3, 1) := by decide +kernel
theorem dX15_pattern_17 : decode cX15_pattern 17 = .ok (.invokestatic 98, 3) := by decide +kernel
theorem dX15_pattern_20 : decode cX15_pattern 20 = .ok (.ifCond .eq 24, 3) := by decide +kernel
theorem dX15_pattern_23 : decode cX15_pattern 23 = .ok (.iload_n 2, 1) := by decide +kernel
theorem dX15_pattern_24 : decode cX15_pattern 24 = .ok (.iconst 0, 1) := by decide +kernel
theorem dX15_pattern_25 : decode cX15_pattern 25 = .ok (.iload_n 3, 1) := by decide +kernel
theorem dX15_pattern_26 : decode cX15_pattern 26 = .ok (.invokestatic 98, 3) := by decide +kernel
theorem dX15_pattern_29 : decode cX15_pattern 29 = .ok (.ifCond .eq 15, 3) := by decide +kernel
theorem dX15_pattern_32 : decode cX15_pattern 32 = .ok (.iload_n 2, 1) := by decide +kernel
theorem dX15_pattern_33 : decode cX15_pattern 33 = .ok (.iload_n 1, 1) := by decide +kernel
theorem dX15_pattern_34 : decode cX15_pattern 34 = .ok (.iconst (-1), 1) := by decide +kernel
theorem dX15_pattern_35 : decode cX15_pattern 35 = .ok (.ixor, 1) := by decide +kernel
theorem dX15_pattern_36 : decode cX15_pattern 36 = .ok (.iand, 1) := by decide +kernel
theorem dX15_pattern_37 : decode cX15_pattern 37 = .ok (.ifCond .ne 7, 3) := by decide +kernel
theorem dX15_pattern_40 : decode cX15_pattern 40 = .ok (.iconst 1, 1) := by decide +kernel
theorem dX15_pattern_41 : decode cX15_pattern 41 = .ok (.goto 4, 3) := by decide +kernel
theorem dX15_pattern_44 : decode cX15_pattern 44 = .ok (.iconst 0, 1) := by decide +kernel
theorem dX15_pattern_45 : decode cX15_pattern 45 = .ok (.istore 4, 2) := by decide +kernel
theorem dX15_pattern_47 : decode cX15_pattern 47 = .ok (.aload_n 0, 1) := by decide +kernel
theorem dX15_pattern_48 : decode cX15_pattern 48 = .ok (.iload 4, 2) := by decide +kernel
theorem dX15_pattern_50 : decode cX15_pattern 50 = .ok (.ifCond .ne 7, 3) := by decide +kernel
theorem dX15_pattern_53 : decode cX15_pattern 53 = .ok (.iconst 1, 1) := by decide +kernel
theorem dX15_pattern_54 : decode cX15_pattern 54 = .ok (.goto 33, 3) := by decide +kernel
theorem dX15_pattern_57 : decode cX15_pattern 57 = .ok (.aload_n 0, 1) := by decide +kernel
theorem dX15_pattern_58 : decode cX15_pattern 58 = .ok (.getfield 102, 3) := by decide +kernel
theorem dX15_pattern_61 : decode cX15_pattern 61 = .ok (.ifCond .ne 7, 3) := by decide +kernel
theorem dX15_pattern_64 : decode cX15_pattern 64 = .ok (.iconst 2, 1) := by decide +kernel
theorem dX15_pattern_65 : decode cX15_pattern 65 = .ok (.goto 22, 3) := by decide +kernel
theorem dX15_pattern_68 : decode cX15_pattern 68 = .ok (.aload_n 0, 1) := by decide +kernel
theorem dX15_pattern_69 : decode cX15_pattern 69 = .ok (.getfield 32, 3) := by decide +kernel
theorem dX15_pattern_72 : decode cX15_pattern 72 = .ok (.invokeinterface 92 1, 5) := by decide +kernel
theorem dX15_pattern_77 : decode cX15_pattern 77 = .ok (.bipush 32, 2) := by decide +kernel
theorem dX15_pattern_79 : decode cX15_pattern 79 = .ok (.if_icmp .ne 7, 3) := by decide +kernel
theorem dX15_pattern_82 : decode cX15_pattern 82 = .ok (.iconst 3, 1) := by decide +kernel
theorem dX15_pattern_83 : decode cX15_pattern 83 = .ok (.goto 4, 3) := by decide +kernel
theorem dX15_pattern_86 : decode cX15_pattern 86 = .ok (.iconst 0, 1) := by decide +kernel
theorem dX15_pattern_87 : decode cX15_pattern 87 = .ok (.invokevirtual 106, 3) := by decide +kernel
theorem dX15_pattern_90 : decode cX15_pattern 90 = .ok (.ifCond .eq 5, 3) := by decide +kernel
theorem dX15_pattern_93 : decode cX15_pattern 93 = .ok (.iconst 0, 1) := by decide +kernel
theorem dX15_pattern_94 : decode cX15_pattern 94 = .ok (.ireturn, 1) := by decide +kernel
theorem dX15_pattern_95 : decode cX15_pattern 95 = .ok (.aload_n 0, 1) := by decide +kernel
theorem dX15_pattern_96 : decode cX15_pattern 96 = .ok (.getfield 20, 3) := by decide +kernel
theorem dX15_pattern_99 : decode cX15_pattern 99 = .ok (.invokeinterface 92 1, 5) := by decide +kernel
theorem dX15_pattern_104 : decode cX15_pattern 104 = .ok (.newarray .int, 2) := by decide +kernel
theorem dX15_pattern_106 : decode cX15_pattern 106 = .ok (.astore 5, 2) := by decide +kernel
theorem dX15_pattern_108 : decode cX15_pattern 108 = .ok (.iconst 0, 1) := by decide +kernel
theorem dX15_pattern_109 : decode cX15_pattern 109 = .ok (.istore 6, 2) := by decide +kernel
theorem dX15_pattern_111 : decode cX15_pattern 111 = .ok (.iload 6, 2) := by decide +kernel
theorem dX15_pattern_113 : decode cX15_pattern 113 = .ok (.aload 5, 2) := by decide +kernel
theorem dX15_pattern_115 : decode cX15_pattern 115 = .ok (.arraylength, 1) := by decide +kernel
theorem dX15_pattern_116 : decode cX15_pattern 116 = .ok (.if_icmp .ge 33, 3) := by decide +kernel
theorem dX15_pattern_119 : decode cX15_pattern 119 = .ok (.aload 5, 2) := by decide +kernel
theorem dX15_pattern_121 : decode cX15_pattern 121 = .ok (.iload 6, 2) := by decide +kernel
theorem dX15_pattern_123 : decode cX15_pattern 123 = .ok (.iload_n 1, 1) := by decide +kernel
theorem dX15_pattern_124 : decode cX15_pattern 124 = .ok (.iload 6, 2) := by decide +kernel
theorem dX15_pattern_126 : decode cX15_pattern 126 = .ok (.ishr, 1) := by decide +kernel
theorem dX15_pattern_127 : decode cX15_pattern 127 = .ok (.iconst 1, 1) := by decide +kernel
theorem dX15_pattern_128 : decode cX15_pattern 128 = .ok (.iand, 1) := by decide +kernel
theorem dX15_pattern_129 : decode cX15_pattern 129 = .ok (.ifCond .ne 7, 3) := by decide +kernel
theorem dX15_pattern_132 : decode cX15_pattern 132 = .ok (.iconst 2, 1) := by decide +kernel
theorem dX15_pattern_133 : decode cX15_pattern 133 = .ok (.goto 9, 3) := by decide +kernel
theorem dX15_pattern_136 : decode cX15_pattern 136 = .ok (.iload_n 2, 1) := by decide +kernel
theorem dX15_pattern_137 : decode cX15_pattern 137 = .ok (.iload 6, 2) := by decide +kernel
theorem dX15_pattern_139 : decode cX15_pattern 139 = .ok (.ishr, 1) := by decide +kernel
theorem dX15_pattern_140 : decode cX15_pattern 140 = .ok (.iconst 1, 1) := by decide +kernel
theorem dX15_pattern_141 : decode cX15_pattern 141 = .ok (.iand, 1) := by decide +kernel
theorem dX15_pattern_142 : decode cX15_pattern 142 = .ok (.iastore, 1) := by decide +kernel
theorem dX15_pattern_143 : decode cX15_pattern 143 = .ok (.iinc 6 1, 3) := by decide +kernel
theorem dX15_pattern_146 : decode cX15_pattern 146 = .ok (.goto (-35), 3) := by decide +kernel
theorem dX15_pattern_149 : decode cX15_pattern 149 = .ok (.aload_n 0, 1) := by decide +kernel
theorem dX15_pattern_150 : decode cX15_pattern 150 = .ok (.getfield 32, 3) := by decide +kernel
theorem dX15_pattern_153 : decode cX15_pattern 153 = .ok (.new 200, 3) := by decide +kernel
theorem dX15_pattern_156 : decode cX15_pattern 156 = .ok (.dup, 1) := by decide +kernel
theorem dX15_pattern_157 : decode cX15_pattern 157 = .ok (.aload 5, 2) := by decide +kernel
theorem dX15_pattern_159 : decode cX15_pattern 159 = .ok (.invokespecial 202, 3) := by decide +kernel
theorem dX15_pattern_162 : decode cX15_pattern 162 = .ok (.invokeinterface 124 2, 5) := by decide +kernel
theorem dX15_pattern_167 : decode cX15_pattern 167 = .ok (.pop, 1) := by decide +kernel
theorem dX15_pattern_168 : decode cX15_pattern 168 = .ok (.aload_n 0, 1) := by decide +kernel
theorem dX15_pattern_169 : decode cX15_pattern 169 = .ok (.getfield 32, 3) := by decide +kernel
theorem dX15_pattern_172 : decode cX15_pattern 172 = .ok (.invokeinterface 92 1, 5) := by decide +kernel
theorem dX15_pattern_177 : decode cX15_pattern 177 = .ok (.iconst 1, 1) := by decide +kernel
theorem dX15_pattern_178 : decode cX15_pattern 178 = .ok (.isub, 1) := by decide +kernel
theorem dX15_pattern_179 : decode cX15_pattern 179 = .ok (.ireturn, 1) := by decide +kernel
theorem dX15_patterns_0 : decode cX15_patterns 0 = .ok (.aload_n 0, 1) := by decide +kernel
theorem dX15_patterns_1 : decode cX15_patterns 1 = .ok (.iconst 0, 1) := by decide +kernel
theorem dX15_patterns_2 : decode cX15_patterns 2 = .ok (.putfield 1, 3) := by decide +kernel
theorem dX15_patterns_5 : decode cX15_patterns 5 = .ok (.aload_n 0, 1) := by decide +kernel
theorem dX15_patterns_6 : decode cX15_patterns 6 = .ok (.getfield 32, 3) := by decide +kernel
theorem dX15_patterns_9 : decode cX15_patterns 9 = .ok (.invokeinterface 92 1, 5) := by decide +kernel
theorem dX15_patterns_14 : decode cX15_patterns 14 = .ok (.ireturn, 1) := by decide +kernel
theorem dX15_pinOf_0 : decode cX15_pinOf 0 = .ok (.aload_n 0, 1) := by decide +kernel
theorem dX15_pinOf_1 : decode cX15_pinOf 1 = .ok (.aload_n 0, 1) := by decide +kernel
theorem dX15_pinOf_2 : decode cX15_pinOf 2 = .ok (.iload_n 1, 1) := by decide +kernel
theorem dX15_pinOf_3 : decode cX15_pinOf 3 = .ok (.invokevirtual 286, 3) := by decide +kernel
theorem dX15_pinOf_6 : decode cX15_pinOf 6 = .ok (.ifCond .eq 7, 3) := by decide +kernel
theorem dX15_pinOf_9 : decode cX15_pinOf 9 = .ok (.iconst 0, 1) := by decide +kernel
theorem dX15_pinOf_10 : decode cX15_pinOf 10 = .ok (.goto 4, 3) := by decide +kernel
theorem dX15_pinOf_13 : decode cX15_pinOf 13 = .ok (.iconst 1, 1) := by decide +kernel
theorem dX15_pinOf_14 : decode cX15_pinOf 14 = .ok (.invokevirtual 106, 3) := by decide +kernel
theorem dX15_pinOf_17 : decode cX15_pinOf 17 = .ok (.ifCond .eq 7, 3) := by decide +kernel
theorem dX15_pinOf_20 : decode cX15_pinOf 20 = .ok (.iconst 0, 1) := by decide +kernel
theorem dX15_pinOf_21 : decode cX15_pinOf 21 = .ok (.goto 42, 3) := by decide +kernel
theorem dX15_pinOf_24 : decode cX15_pinOf 24 = .ok (.aload_n 0, 1) := by decide +kernel
theorem dX15_pinOf_25 : decode cX15_pinOf 25 = .ok (.getfield 26, 3) := by decide +kernel
theorem dX15_pinOf_28 : decode cX15_pinOf 28 = .ok (.iload_n 1, 1) := by decide +kernel
theorem dX15_pinOf_29 : decode cX15_pinOf 29 = .ok (.invokeinterface 143 2, 5) := by decide +kernel
theorem dX15_pinOf_34 : decode cX15_pinOf 34 = .ok (.checkcast 170, 3) := by decide +kernel
theorem dX15_pinOf_37 : decode cX15_pinOf 37 = .ok (.invokevirtual 238, 3) := by decide +kernel
theorem dX15_pinOf_40 : decode cX15_pinOf 40 = .ok (.ifCond .eq 22, 3) := by decide +kernel
theorem dX15_pinOf_43 : decode cX15_pinOf 43 = .ok (.aload_n 0, 1) := by decide +kernel
theorem dX15_pinOf_44 : decode cX15_pinOf 44 = .ok (.getfield 26, 3) := by decide +kernel
theorem dX15_pinOf_47 : decode cX15_pinOf 47 = .ok (.iload_n 1, 1) := by decide +kernel
theorem dX15_pinOf_48 : decode cX15_pinOf 48 = .ok (.invokeinterface 143 2, 5) := by decide +kernel
theorem dX15_pinOf_53 : decode cX15_pinOf 53 = .ok (.checkcast 170, 3) := by decide +kernel
theorem dX15_pinOf_56 : decode cX15_pinOf 56 = .ok (.getfield 229, 3) := by decide +kernel
theorem dX15_pinOf_59 : decode cX15_pinOf 59 = .ok (.goto 4, 3) := by decide +kernel
theorem dX15_pinOf_62 : decode cX15_pinOf 62 = .ok (.iconst (-1), 1) := by decide +kernel
theorem dX15_pinOf_63 : decode cX15_pinOf 63 = .ok (.ireturn, 1) := by decide +kernel
theorem dX15_power_0 : decode cX15_power 0 = .ok (.aload_n 0, 1) := by decide +kernel
theorem dX15_power_1 : decode cX15_power 1 = .ok (.aload_n 0, 1) := by decide +kernel
theorem dX15_power_2 : decode cX15_power 2 = .ok (.iload_n 1, 1) := by decide +kernel
theorem dX15_power_3 : decode cX15_power 3 = .ok (.invokevirtual 283, 3) := by decide +kernel
theorem dX15_power_6 : decode cX15_power 6 = .ok (.ifCond .eq 7, 3) := by decide +kernel
theorem dX15_power_9 : decode cX15_power 9 = .ok (.iconst 0, 1) := by decide +kernel
theorem dX15_power_10 : decode cX15_power 10 = .ok (.goto 4, 3) := by decide +kernel
theorem dX15_power_13 : decode cX15_power 13 = .ok (.iconst 1, 1) := by decide +kernel
theorem dX15_power_14 : decode cX15_power 14 = .ok (.invokevirtual 106, 3) := by decide +kernel
theorem dX15_power_17 : decode cX15_power 17 = .ok (.ifCond .eq 5, 3) := by decide +kernel
theorem dX15_power_20 : decode cX15_power 20 = .ok (.iconst 0, 1) := by decide +kernel
theorem dX15_power_21 : decode cX15_power 21 = .ok (.ireturn, 1) := by decide +kernel
theorem dX15_power_22 : decode cX15_power 22 = .ok (.aload_n 0, 1) := by decide +kernel
theorem dX15_power_23 : decode cX15_power 23 = .ok (.getfield 32, 3) := by decide +kernel
theorem dX15_power_26 : decode cX15_power 26 = .ok (.iload_n 1, 1) := by decide +kernel
theorem dX15_power_27 : decode cX15_power 27 = .ok (.invokeinterface 143 2, 5) := by decide +kernel
theorem dX15_power_32 : decode cX15_power 32 = .ok (.checkcast 200, 3) := by decide +kernel
theorem dX15_power_35 : decode cX15_power 35 = .ok (.getfield 256, 3) := by decide +kernel
theorem dX15_power_38 : decode cX15_power 38 = .ok (.astore_n 2, 1) := by decide +kernel
theorem dX15_power_39 : decode cX15_power 39 = .ok (.iconst 0, 1) := by decide +kernel
theorem dX15_power_40 : decode cX15_power 40 = .ok (.istore_n 3, 1) := by decide +kernel
theorem dX15_power_41 : decode cX15_power 41 = .ok (.iconst 1, 1) := by decide +kernel
theorem dX15_power_42 : decode cX15_power 42 = .ok (.istore 4, 2) := by decide +kernel
theorem dX15_power_44 : decode cX15_power 44 = .ok (.iload 4, 2) := by decide +kernel
theorem dX15_power_46 : decode cX15_power 46 = .ok (.aload_n 2, 1) := by decide +kernel
theorem dX15_power_47 : decode cX15_power 47 = .ok (.arraylength, 1) := by decide +kernel
theorem dX15_power_48 : decode cX15_power 48 = .ok (.if_icmp .ge 51, 3) := by decide +kernel
theorem dX15_power_51 : decode cX15_power 51 = .ok (.iload_n 3, 1) := by decide +kernel
theorem dX15_power_52 : decode cX15_power 52 = .ok (.aload_n 2, 1) := by decide +kernel
theorem dX15_power_53 : decode cX15_power 53 = .ok (.iload 4, 2) := by decide +kernel
theorem dX15_power_55 : decode cX15_power 55 = .ok (.iaload, 1) := by decide +kernel
theorem dX15_power_56 : decode cX15_power 56 = .ok (.aload_n 2, 1) := by decide +kernel
theorem dX15_power_57 : decode cX15_power 57 = .ok (.iload 4, 2) := by decide +kernel
theorem dX15_power_59 : decode cX15_power 59 = .ok (.iconst 1, 1) := by decide +kernel
theorem dX15_power_60 : decode cX15_power 60 = .ok (.isub, 1) := by decide +kernel
theorem dX15_power_61 : decode cX15_power 61 = .ok (.iaload, 1) := by decide +kernel
theorem dX15_power_62 : decode cX15_power 62 = .ok (.iadd, 1) := by decide +kernel
theorem dX15_power_63 : decode cX15_power 63 = .ok (.iconst 1, 1) := by decide +kernel
theorem dX15_power_64 : decode cX15_power 64 = .ok (.if_icmp .ne 26, 3) := by decide +kernel
theorem dX15_power_67 : decode cX15_power 67 = .ok (.aload_n 2, 1) := by decide +kernel
theorem dX15_power_68 : decode cX15_power 68 = .ok (.iload 4, 2) := by decide +kernel
theorem dX15_power_70 : decode cX15_power 70 = .ok (.iaload, 1) := by decide +kernel
theorem dX15_power_71 : decode cX15_power 71 = .ok (.iconst 2, 1) := by decide +kernel
theorem dX15_power_72 : decode cX15_power 72 = .ok (.if_icmp .eq 18, 3) := by decide +kernel
theorem dX15_power_75 : decode cX15_power 75 = .ok (.aload_n 2, 1) := by decide +kernel
theorem dX15_power_76 : decode cX15_power 76 = .ok (.iload 4, 2) := by decide +kernel
theorem dX15_power_78 : decode cX15_power 78 = .ok (.iconst 1, 1) := by decide +kernel
theorem dX15_power_79 : decode cX15_power 79 = .ok (.isub, 1) := by decide +kernel
theorem dX15_power_80 : decode cX15_power 80 = .ok (.iaload, 1) := by decide +kernel
theorem dX15_power_81 : decode cX15_power 81 = .ok (.iconst 2, 1) := by decide +kernel
theorem dX15_power_82 : decode cX15_power 82 = .ok (.if_icmp .eq 8, 3) := by decide +kernel
theorem dX15_power_85 : decode cX15_power 85 = .ok (.iload 4, 2) := by decide +kernel
theorem dX15_power_87 : decode cX15_power 87 = .ok (.goto 4, 3) := by decide +kernel
theorem dX15_power_90 : decode cX15_power 90 = .ok (.iconst 0, 1) := by decide +kernel
theorem dX15_power_91 : decode cX15_power 91 = .ok (.iadd, 1) := by decide +kernel
theorem dX15_power_92 : decode cX15_power 92 = .ok (.istore_n 3, 1) := by decide +kernel
theorem dX15_power_93 : decode cX15_power 93 = .ok (.iinc 4 1, 3) := by decide +kernel
theorem dX15_power_96 : decode cX15_power 96 = .ok (.goto (-52), 3) := by decide +kernel
theorem dX15_power_99 : decode cX15_power 99 = .ok (.iload_n 3, 1) := by decide +kernel
theorem dX15_power_100 : decode cX15_power 100 = .ok (.ireturn, 1) := by decide +kernel
theorem dX15_record_0 : decode cX15_record 0 = .ok (.aload_n 0, 1) := by decide +kernel
theorem dX15_record_1 : decode cX15_record 1 = .ok (.invokevirtual 421, 3) := by decide +kernel
theorem dX15_record_4 : decode cX15_record 4 = .ok (.astore_n 1, 1) := by decide +kernel
theorem dX15_record_5 : decode cX15_record 5 = .ok (.aload_n 0, 1) := by decide +kernel
theorem dX15_record_6 : decode cX15_record 6 = .ok (.aload_n 1, 1) := by decide +kernel
theorem dX15_record_7 : decode cX15_record 7 = .ok (.invokeinterface 349 1, 5) := by decide +kernel
theorem dX15_record_12 : decode cX15_record 12 = .ok (.ifCond .eq 7, 3) := by decide +kernel
theorem dX15_record_15 : decode cX15_record 15 = .ok (.iconst 1, 1) := by decide +kernel
theorem dX15_record_16 : decode cX15_record 16 = .ok (.goto 4, 3) := by decide +kernel
theorem dX15_record_19 : decode cX15_record 19 = .ok (.iconst 0, 1) := by decide +kernel
theorem dX15_record_20 : decode cX15_record 20 = .ok (.invokevirtual 106, 3) := by decide +kernel
theorem dX15_record_23 : decode cX15_record 23 = .ok (.ifCond .eq 5, 3) := by decide +kernel
theorem dX15_record_26 : decode cX15_record 26 = .ok (.iconst 0, 1) := by decide +kernel
theorem dX15_record_27 : decode cX15_record 27 = .ok (.ireturn, 1) := by decide +kernel
theorem dX15_record_28 : decode cX15_record 28 = .ok (.aload_n 0, 1) := by decide +kernel
theorem dX15_record_29 : decode cX15_record 29 = .ok (.getfield 45, 3) := by decide +kernel
theorem dX15_record_32 : decode cX15_record 32 = .ok (.aload_n 1, 1) := by decide +kernel
theorem dX15_record_33 : decode cX15_record 33 = .ok (.iconst 0, 1) := by decide +kernel
theorem dX15_record_34 : decode cX15_record 34 = .ok (.invokeinterface 143 2, 5) := by decide +kernel
theorem dX15_record_39 : decode cX15_record 39 = .ok (.checkcast 119, 3) := by decide +kernel
theorem dX15_record_42 : decode cX15_record 42 = .ok (.invokevirtual 194, 3) := by decide +kernel
theorem dX15_record_45 : decode cX15_record 45 = .ok (.dup2, 1) := by decide +kernel
theorem dX15_record_46 : decode cX15_record 46 = .ok (.iaload, 1) := by decide +kernel
theorem dX15_record_47 : decode cX15_record 47 = .ok (.iconst 1, 1) := by decide +kernel
theorem dX15_record_48 : decode cX15_record 48 = .ok (.iadd, 1) := by decide +kernel
theorem dX15_record_49 : decode cX15_record 49 = .ok (.iastore, 1) := by decide +kernel
theorem dX15_record_50 : decode cX15_record 50 = .ok (.aload_n 0, 1) := by decide +kernel
theorem dX15_record_51 : decode cX15_record 51 = .ok (.aload_n 1, 1) := by decide +kernel
theorem dX15_record_52 : decode cX15_record 52 = .ok (.iconst 0, 1) := by decide +kernel
theorem dX15_record_53 : decode cX15_record 53 = .ok (.invokeinterface 143 2, 5) := by decide +kernel
theorem dX15_record_58 : decode cX15_record 58 = .ok (.checkcast 119, 3) := by decide +kernel
theorem dX15_record_61 : decode cX15_record 61 = .ok (.invokevirtual 194, 3) := by decide +kernel
theorem dX15_record_64 : decode cX15_record 64 = .ok (.aload_n 0, 1) := by decide +kernel
theorem dX15_record_65 : decode cX15_record 65 = .ok (.invokevirtual 314, 3) := by decide +kernel
theorem dX15_record_68 : decode cX15_record 68 = .ok (.invokevirtual 424, 3) := by decide +kernel
theorem dX15_record_71 : decode cX15_record 71 = .ok (.ireturn, 1) := by decide +kernel
theorem dX15_sameAs_0 : decode cX15_sameAs 0 = .ok (.aload_n 0, 1) := by decide +kernel
theorem dX15_sameAs_1 : decode cX15_sameAs 1 = .ok (.iload_n 1, 1) := by decide +kernel
theorem dX15_sameAs_2 : decode cX15_sameAs 2 = .ok (.iload_n 2, 1) := by decide +kernel
theorem dX15_sameAs_3 : decode cX15_sameAs 3 = .ok (.invokevirtual 515, 3) := by decide +kernel
theorem dX15_sameAs_6 : decode cX15_sameAs 6 = .ok (.ifCond .eq 5, 3) := by decide +kernel
theorem dX15_sameAs_9 : decode cX15_sameAs 9 = .ok (.iconst 0, 1) := by decide +kernel
theorem dX15_sameAs_10 : decode cX15_sameAs 10 = .ok (.ireturn, 1) := by decide +kernel
theorem dX15_sameAs_11 : decode cX15_sameAs 11 = .ok (.iconst 0, 1) := by decide +kernel
theorem dX15_sameAs_12 : decode cX15_sameAs 12 = .ok (.istore_n 3, 1) := by decide +kernel
theorem dX15_sameAs_13 : decode cX15_sameAs 13 = .ok (.iconst 0, 1) := by decide +kernel
theorem dX15_sameAs_14 : decode cX15_sameAs 14 = .ok (.istore 4, 2) := by decide +kernel
theorem dX15_sameAs_16 : decode cX15_sameAs 16 = .ok (.iload 4, 2) := by decide +kernel
theorem dX15_sameAs_18 : decode cX15_sameAs 18 = .ok (.aload_n 0, 1) := by decide +kernel
theorem dX15_sameAs_19 : decode cX15_sameAs 19 = .ok (.getfield 492, 3) := by decide +kernel
theorem dX15_sameAs_22 : decode cX15_sameAs 22 = .ok (.if_icmp .ge 33, 3) := by decide +kernel
theorem dX15_sameAs_25 : decode cX15_sameAs 25 = .ok (.iload_n 3, 1) := by decide +kernel
theorem dX15_sameAs_26 : decode cX15_sameAs 26 = .ok (.aload_n 0, 1) := by decide +kernel
theorem dX15_sameAs_27 : decode cX15_sameAs 27 = .ok (.iload 4, 2) := by decide +kernel
theorem dX15_sameAs_29 : decode cX15_sameAs 29 = .ok (.iload_n 2, 1) := by decide +kernel
theorem dX15_sameAs_30 : decode cX15_sameAs 30 = .ok (.invokevirtual 519, 3) := by decide +kernel
theorem dX15_sameAs_33 : decode cX15_sameAs 33 = .ok (.aload_n 0, 1) := by decide +kernel
theorem dX15_sameAs_34 : decode cX15_sameAs 34 = .ok (.iload_n 1, 1) := by decide +kernel
theorem dX15_sameAs_35 : decode cX15_sameAs 35 = .ok (.iload_n 2, 1) := by decide +kernel
theorem dX15_sameAs_36 : decode cX15_sameAs 36 = .ok (.invokevirtual 519, 3) := by decide +kernel
theorem dX15_sameAs_39 : decode cX15_sameAs 39 = .ok (.if_icmp .ne 7, 3) := by decide +kernel
theorem dX15_sameAs_42 : decode cX15_sameAs 42 = .ok (.iconst 1, 1) := by decide +kernel
theorem dX15_sameAs_43 : decode cX15_sameAs 43 = .ok (.goto 4, 3) := by decide +kernel
theorem dX15_sameAs_46 : decode cX15_sameAs 46 = .ok (.iconst 0, 1) := by decide +kernel
theorem dX15_sameAs_47 : decode cX15_sameAs 47 = .ok (.iadd, 1) := by decide +kernel
theorem dX15_sameAs_48 : decode cX15_sameAs 48 = .ok (.istore_n 3, 1) := by decide +kernel
theorem dX15_sameAs_49 : decode cX15_sameAs 49 = .ok (.iinc 4 1, 3) := by decide +kernel
theorem dX15_sameAs_52 : decode cX15_sameAs 52 = .ok (.goto (-36), 3) := by decide +kernel
theorem dX15_sameAs_55 : decode cX15_sameAs 55 = .ok (.iload_n 3, 1) := by decide +kernel
theorem dX15_sameAs_56 : decode cX15_sameAs 56 = .ok (.ireturn, 1) := by decide +kernel
set_option maxHeartbeats 4000000 in
set_option maxRecDepth 100000 in
theorem k_X15_meanFound (l : Launch) (D : va_G) (g : Nat → ClassId) (z0 sz : Nat) (a : Nat → Nat) : Met l yX15_meanFound (.code yX15_meanFound cX15_meanFound 5 (some .double) :: TG) (rmk 5 3 7 95) (va_Pc [.ref (a 200)] (PP D g z0 sz [((a 200), f_m a g), ((a 201), .inr (5, [.int 0, .ref (g 100), .int 0]))])) (va_Qd (fun (r : UInt64) (u : Unit) => True) (fun (u : Unit) (t : State) => va_P D vwCl [((a 200), .inr (21, [.int 1, .ref (a 201), .ref (a 202), .ref (a 203), .ref (a 204), .ref (a 205), .ref (a 206), .int 0, .int 0, .int 0, .int 0, .ref (a 208), .ref (a 209), .ref (a 210), .ref (a 211), .ref (a 212), .int 4, .int 12, .int (-1), .int 0, .ref (g 200), .ref (a 213), .int 0, .int 97, .ref (a 214), .ref (a 215), .ref (a 207), .null, .int 0]))] t.heap ∧ va_D (va_A [((a 200), f_m a g), ((a 201), .inr (5, [.int 0, .ref (g 100), .int 0]))] sz) [((a 200), .inr (21, [.int 1, .ref (a 201), .ref (a 202), .ref (a 203), .ref (a 204), .ref (a 205), .ref (a 206), .int 0, .int 0, .int 0, .int 0, .ref (a 208), .ref (a 209), .ref (a 210), .ref (a 211), .ref (a 212), .int 4, .int 12, .int (-1), .int 0, .ref (g 200), .ref (a 213), .int 0, .int 97, .ref (a 214), .ref (a 215), .ref (a 207), .null, .int 0]))]) (va_A [((a 200), f_m a g), ((a 201), .inr (5, [.int 0, .ref (g 100), .int 0]))] sz)) 3 7 (va_A [((a 200), f_m a g), ((a 201), .inr (5, [.int 0, .ref (g 100), .int 0]))] sz) := by
  refine met0 (cc := cX15_meanFound) (n := 5) (by decide) (Nat.le_of_ble_eq_true rfl) ?_
  intro p e s m args below meth c hx hb hr hml hown ht hlocks hnm hP0 hD0 hK hZ hsz hz ls hl
  subst hsz
  have hA : ∀ q : Nat, s.heap.size ≤ q → va_A [((a 200), f_m a g), ((a 201), .inr (5, [.int 0, .ref (g 100), .int 0]))] s.heap.size q := Anw
  have hAz : ∀ q, va_A [((a 200), f_m a g), ((a 201), .inr (5, [.int 0, .ref (g 100), .int 0]))] s.heap.size q → z0 ≤ q := Awz hz hD0
  have hS : va_S (va_A [((a 200), f_m a g), ((a 201), .inr (5, [.int 0, .ref (g 100), .int 0]))] s.heap.size) s.heap s.heap [] := va_S.rf
  have hD : va_D (va_A [((a 200), f_m a g), ((a 201), .inr (5, [.int 0, .ref (g 100), .int 0]))] s.heap.size) [((a 200), f_m a g), ((a 201), .inr (5, [.int 0, .ref (g 100), .int 0]))] := hD0.self
  have hP : va_P D vwCl [((a 200), f_m a g), ((a 201), .inr (5, [.int 0, .ref (g 100), .int 0]))] s.heap := hP0
  have hl : lv_has ls 5 [(0, .ref (a 200))] := hl
  refine lv_aload_n hx hb dX15_meanFound_0 rfl (lv_at hl 0 rfl) ?_
  have hPc : va_P D vwCl [((a 200), f_m a g), ((a 201), .inr (5, [.int 0, .ref (g 100), .int 0]))] _ := hP.sub (ws' := [((a 200), f_m a g), ((a 201), .inr (5, [.int 0, .ref (g 100), .int 0]))]) [0, 1] rfl
  have hDc : va_D (fun q => z0 ≤ q) [((a 200), f_m a g), ((a 201), .inr (5, [.int 0, .ref (g 100), .int 0]))] := (hD.to hAz).pick (ws' := [((a 200), f_m a g), ((a 201), .inr (5, [.int 0, .ref (g 100), .int 0]))]) [0, 1] (by decide) rfl
  have hFc := va_free (wc := [((a 200), f_m a g), ((a 201), .inr (5, [.int 0, .ref (g 100), .int 0]))]) hD hS hA [0, 1] rfl
  refine va_callr (va_runV (As := []) (rest := []) ⟨hx, hb, hml, hown, ht⟩ (k_X15_allClasses l D g z0 _ a) (cwV 0 ht (gV w_364 w_366 w_367 w_334 w_365) rfl rfl rfl (by decide +kernel) (le2 rfl rfl)) ⟨PP.blind, va_recv hK.1 hP (ci := 21) (q0 := 0) rfl rfl, PP.mk' hK hZ hz hAz hS hPc hDc⟩ rfl rfl hl.1 rfl (lv_room (Nat.le_of_ble_eq_true rfl)) dX15_meanFound_1 (le2 rfl rfl)) hS (fun q _ h => hFc q h) hFc (fun u ra t H locs ht1 hvm hw hB hz1 hk1 hS => ?_)
  obtain ⟨q_1, hr9, hP1, hD1⟩ := hB
  rw [ht1] at hP1
  obtain ⟨hP, hD⟩ := va_join (wr := []) (w1 := [(q_1, .inr (5, [.int 0, .ref (g 100), .int 0])), ((a 200), f_m a g), ((a 201), .inr (5, [.int 0, .ref (g 100), .int 0]))]) hP hD [0, 1] [] rfl rfl (by decide) (by decide) hk1 hFc hP1 hD1
  subst hr9
  have hP : va_P D vwCl [(q_1, .inr (5, [.int 0, .ref (g 100), .int 0])), ((a 200), f_m a g), ((a 201), .inr (5, [.int 0, .ref (g 100), .int 0]))] H := hP
  have hD : va_D (va_A [((a 200), f_m a g), ((a 201), .inr (5, [.int 0, .ref (g 100), .int 0]))] s.heap.size) [(q_1, .inr (5, [.int 0, .ref (g 100), .int 0])), ((a 200), f_m a g), ((a 201), .inr (5, [.int 0, .ref (g 100), .int 0]))] := hD
  refine lv_astore_n (lv' := [(1, .ref q_1), (0, .ref (a 200))]) hx hb dX15_meanFound_4 rfl hl (by decide) rfl (fun ls hl => ?_)
  refine lv_iconst (v := 0) hx hb dX15_meanFound_5 (by decide) ?_
  refine lv_istore_n (lv' := [(2, .int 0), (1, .ref q_1), (0, .ref (a 200))]) hx hb dX15_meanFound_6 rfl hl (by decide) rfl (fun ls hl => ?_)
  refine lv_aload_n hx hb dX15_meanFound_7 rfl (lv_at hl 1 rfl) ?_
  have hPc : va_P D vwCl [(q_1, .inr (5, [.int 0, .ref (g 100), .int 0]))] _ := hP.sub (ws' := [(q_1, .inr (5, [.int 0, .ref (g 100), .int 0]))]) [0] rfl
  have hDc : va_D (fun q => z0 ≤ q) [(q_1, .inr (5, [.int 0, .ref (g 100), .int 0]))] := (hD.to hAz).pick (ws' := [(q_1, .inr (5, [.int 0, .ref (g 100), .int 0]))]) [0] (by decide) rfl
  have hFc := va_free (wc := [(q_1, .inr (5, [.int 0, .ref (g 100), .int 0]))]) hD hS hA [0] rfl
  refine va_callFr (va_runF (As := []) (rest := []) (hK.1.1 5 _ rfl).2 ⟨hx, hb, hml, hown, ht⟩ (k_Jx4a65c_iterator_32c93 l D g z0 _ a q_1) (va_cwF 0 ht (gF w_319 w_321 w_322 w_323 w_320) rfl rfl rfl (hK.2.2.2.1 _ (List.mem_of_getElem? (i := 3) rfl)) (by decide +kernel) (le2 rfl rfl)) ⟨PP.blind, va_recv hK.1 hP (ci := 5) (q0 := 0) rfl rfl, PP.mk' hK hZ hz hAz hS hPc hDc⟩ rfl rfl hl.1 rfl (lv_room (Nat.le_of_ble_eq_true rfl)) dX15_meanFound_8 (le2 rfl rfl)) hS (fun q _ h => hFc q h) hFc (fun u ra t H locs ht1 hvm hw hB hz1 hk1 hS => ?_)
  obtain ⟨q_2, hr9, hP1, hD1⟩ := hB
  rw [ht1] at hP1
  obtain ⟨hP, hD⟩ := va_join (wr := [((a 200), f_m a g), ((a 201), .inr (5, [.int 0, .ref (g 100), .int 0]))]) (w1 := [(q_2, .inr (4, [.int 0, .int (-1), .int 0, .ref q_1])), (q_1, .inr (5, [.int 0, .ref (g 100), .int 0]))]) hP hD [0] [1, 2] rfl rfl (by decide) (by decide) hk1 hFc hP1 hD1
  subst hr9
  have hP : va_P D vwCl [((a 200), f_m a g), ((a 201), .inr (5, [.int 0, .ref (g 100), .int 0])), (q_2, .inr (4, [.int 0, .int (-1), .int 0, .ref q_1])), (q_1, .inr (5, [.int 0, .ref (g 100), .int 0]))] H := hP
  have hD : va_D (va_A [((a 200), f_m a g), ((a 201), .inr (5, [.int 0, .ref (g 100), .int 0]))] s.heap.size) [((a 200), f_m a g), ((a 201), .inr (5, [.int 0, .ref (g 100), .int 0])), (q_2, .inr (4, [.int 0, .int (-1), .int 0, .ref q_1])), (q_1, .inr (5, [.int 0, .ref (g 100), .int 0]))] := hD
  refine lv_astore_n (lv' := [(3, .ref q_2), (2, .int 0), (1, .ref q_1), (0, .ref (a 200))]) hx hb dX15_meanFound_13 rfl hl (by decide) rfl (fun ls hl => ?_)
  refine lv_aload_n hx hb dX15_meanFound_14 rfl (lv_at hl 0 rfl) ?_
  have hPc : va_P D vwCl [(q_2, .inr (4, [.int 0, .int (-1), .int 0, .ref q_1])), (q_1, .inr (5, [.int 0, .ref (g 100), .int 0]))] _ := hP.sub (ws' := [(q_2, .inr (4, [.int 0, .int (-1), .int 0, .ref q_1])), (q_1, .inr (5, [.int 0, .ref (g 100), .int 0]))]) [2, 3] rfl
  have hDc : va_D (fun q => z0 ≤ q) [(q_2, .inr (4, [.int 0, .int (-1), .int 0, .ref q_1])), (q_1, .inr (5, [.int 0, .ref (g 100), .int 0]))] := (hD.to hAz).pick (ws' := [(q_2, .inr (4, [.int 0, .int (-1), .int 0, .ref q_1])), (q_1, .inr (5, [.int 0, .ref (g 100), .int 0]))]) [2, 3] (by decide) rfl
  have hFc := AnA (ws := [((a 200), f_m a g), ((a 201), .inr (5, [.int 0, .ref (g 100), .int 0]))]) hS.1
  refine va_callFi (va_runF (As := []) (rest := []) (hK.1.1 4 _ rfl).2 ⟨hx, hb, hml, hown, ht⟩ (k_Jx35411_hasNext_aae02 l D g z0 _ a q_2 q_1) (va_cwF 0 ht (gF w_326 w_328 w_329 w_307 w_327) rfl rfl rfl (hK.2.2.2.1 _ (List.mem_of_getElem? (i := 4) rfl)) (by decide +kernel) (le2 rfl rfl)) ⟨PP.blind, va_recv hK.1 hP (ci := 4) (q0 := 2) rfl rfl, PP.mk' hK hZ hz hAz hS hPc hDc⟩ rfl rfl hl.1 rfl (lv_room (Nat.le_of_ble_eq_true rfl)) dX15_meanFound_15 (le2 rfl rfl)) hS (fun q _ h => hFc q h) hFc (fun r u t H locs ht1 hvm hw hB hz1 hk1 hS => ?_)
  obtain ⟨rfl, hw⟩ := hw
  have hP := ro1 hP hk1
  refine lv_if_eq (tgt := 54) hx hb dX15_meanFound_20 (by decide) (fun c_3 => ?_) (fun c_3 => ?_)
  · refine lv_aload_n hx hb dX15_meanFound_54 rfl (lv_at hl 3 rfl) ?_
    refine lv_aload_n hx hb dX15_meanFound_55 rfl (lv_at hl 2 rfl) ?_
    have hPc : va_P D vwCl [(q_1, .inr (5, [.int 0, .ref (g 100), .int 0]))] _ := hP.sub (ws' := [(q_1, .inr (5, [.int 0, .ref (g 100), .int 0]))]) [3] rfl
    have hDc : va_D (fun q => z0 ≤ q) [(q_1, .inr (5, [.int 0, .ref (g 100), .int 0]))] := (hD.to hAz).pick (ws' := [(q_1, .inr (5, [.int 0, .ref (g 100), .int 0]))]) [3] (by decide) rfl
    have hFc := AnA (ws := [((a 200), f_m a g), ((a 201), .inr (5, [.int 0, .ref (g 100), .int 0]))]) hS.1
    refine va_callFi (va_runF (As := []) (rest := [.ref (a 200)]) (hK.1.1 5 _ rfl).2 ⟨hx, hb, hml, hown, ht⟩ (k_Jx4a65c_isEmpty_aae02 l D g z0 _ a q_1) (va_cwF 0 ht (gF w_487 w_489 w_490 w_323 w_488) rfl rfl rfl (hK.2.2.2.1 _ (List.mem_of_getElem? (i := 6) rfl)) (by decide +kernel) (le2 rfl rfl)) ⟨PP.blind, va_recv hK.1 hP (ci := 5) (q0 := 3) rfl rfl, PP.mk' hK hZ hz hAz hS hPc hDc⟩ rfl rfl hl.1 rfl (lv_room (Nat.le_of_ble_eq_true rfl)) dX15_meanFound_56 (le2 rfl rfl)) hS (fun q _ h => hFc q h) hFc (fun r u t H locs ht1 hvm hw hB hz1 hk1 hS => ?_)
    obtain ⟨rfl, hw⟩ := hw
    have hP := ro1 hP hk1
    refine lv_if_eq (tgt := 68) hx hb dX15_meanFound_61 (by decide) (fun c_4 => ?_) (fun c_4 => ?_)
    · exact absurd c_4 (by decide)
    · refine lv_iconst (v := 1) hx hb dX15_meanFound_64 (by decide) ?_
      refine lv_goto (tgt := 69) hx hb dX15_meanFound_65 (by decide) ?_
      have hPc : va_P D vwCl [((a 200), f_m a g)] _ := hP.sub (ws' := [((a 200), f_m a g)]) [0] rfl
      have hDc : va_D (fun q => z0 ≤ q) [((a 200), f_m a g)] := (hD.to hAz).pick (ws' := [((a 200), f_m a g)]) [0] (by decide) rfl
      have hFc := va_free (wc := [((a 200), f_m a g)]) hD hS hA [0] rfl
      refine va_calli (va_runV (As := [.int 1]) (rest := []) ⟨hx, hb, hml, hown, ht⟩ (k_X15_isWrong l D g z0 _ a) (cwV 1 ht (gV w_376 w_378 w_379 w_334 w_377) rfl rfl rfl (by decide +kernel) (le2 rfl rfl)) ⟨PP.blind, va_recv hK.1 hP (ci := 21) (q0 := 0) rfl rfl, PP.mk' hK hZ hz hAz hS hPc hDc⟩ rfl rfl hl.1 rfl (lv_room (Nat.le_of_ble_eq_true rfl)) dX15_meanFound_69 (le2 rfl rfl)) hS (fun q _ h => hFc q h) hFc (fun r u t H locs ht1 hvm hw hB hz1 hk1 hS => ?_)
      obtain ⟨rfl, hw⟩ := hw
      obtain ⟨hP1, hD1⟩ := hB
      rw [ht1] at hP1
      obtain ⟨hP, hD⟩ := va_join (wr := [((a 201), .inr (5, [.int 0, .ref (g 100), .int 0])), (q_2, .inr (4, [.int 0, .int (-1), .int 0, .ref q_1])), (q_1, .inr (5, [.int 0, .ref (g 100), .int 0]))]) (w1 := [((a 200), .inr (21, [.int 1, .ref (a 201), .ref (a 202), .ref (a 203), .ref (a 204), .ref (a 205), .ref (a 206), .int 0, .int 0, .int 0, .int 0, .ref (a 208), .ref (a 209), .ref (a 210), .ref (a 211), .ref (a 212), .int 4, .int 12, .int (-1), .int 0, .ref (g 200), .ref (a 213), .int 0, .int 97, .ref (a 214), .ref (a 215), .ref (a 207), .null, .int 0]))]) hP hD [0] [1, 2, 3] rfl rfl (by decide) (by decide) hk1 hFc hP1 hD1
      have hP : va_P D vwCl [((a 201), .inr (5, [.int 0, .ref (g 100), .int 0])), (q_2, .inr (4, [.int 0, .int (-1), .int 0, .ref q_1])), (q_1, .inr (5, [.int 0, .ref (g 100), .int 0])), ((a 200), .inr (21, [.int 1, .ref (a 201), .ref (a 202), .ref (a 203), .ref (a 204), .ref (a 205), .ref (a 206), .int 0, .int 0, .int 0, .int 0, .ref (a 208), .ref (a 209), .ref (a 210), .ref (a 211), .ref (a 212), .int 4, .int 12, .int (-1), .int 0, .ref (g 200), .ref (a 213), .int 0, .int 97, .ref (a 214), .ref (a 215), .ref (a 207), .null, .int 0]))] H := hP
      have hD : va_D (va_A [((a 200), f_m a g), ((a 201), .inr (5, [.int 0, .ref (g 100), .int 0]))] s.heap.size) [((a 201), .inr (5, [.int 0, .ref (g 100), .int 0])), (q_2, .inr (4, [.int 0, .int (-1), .int 0, .ref q_1])), (q_1, .inr (5, [.int 0, .ref (g 100), .int 0])), ((a 200), .inr (21, [.int 1, .ref (a 201), .ref (a 202), .ref (a 203), .ref (a 204), .ref (a 205), .ref (a 206), .int 0, .int 0, .int 0, .int 0, .ref (a 208), .ref (a 209), .ref (a 210), .ref (a 211), .ref (a 212), .int 4, .int 12, .int (-1), .int 0, .ref (g 200), .ref (a 213), .int 0, .int 97, .ref (a 214), .ref (a 215), .ref (a 207), .null, .int 0]))] := hD
      refine lv_if_eq (tgt := 79) hx hb dX15_meanFound_72 (by decide) (fun c_5 => ?_) (fun c_5 => ?_)
      · exact absurd c_5 (by decide)
      · refine lv_dconst0 hx hb dX15_meanFound_75 ?_
        refine lv_goto (tgt := 89) hx hb dX15_meanFound_76 (by decide) ?_
        have hP9 := hP.sub (ws' := [((a 200), .inr (21, [.int 1, .ref (a 201), .ref (a 202), .ref (a 203), .ref (a 204), .ref (a 205), .ref (a 206), .int 0, .int 0, .int 0, .int 0, .ref (a 208), .ref (a 209), .ref (a 210), .ref (a 211), .ref (a 212), .int 4, .int 12, .int (-1), .int 0, .ref (g 200), .ref (a 213), .int 0, .int 97, .ref (a 214), .ref (a 215), .ref (a 207), .null, .int 0]))]) [3] rfl
        have hD9 := hD.sub (ws' := [((a 200), .inr (21, [.int 1, .ref (a 201), .ref (a 202), .ref (a 203), .ref (a 204), .ref (a 205), .ref (a 206), .int 0, .int 0, .int 0, .int 0, .ref (a 208), .ref (a 209), .ref (a 210), .ref (a 211), .ref (a 212), .int 4, .int 12, .int (-1), .int 0, .ref (g 200), .ref (a 213), .int 0, .int 97, .ref (a 214), .ref (a 215), .ref (a 207), .null, .int 0]))]) [3] (by decide) rfl
        refine W.widen (k := 3) (n := 7) (Nat.le_of_ble_eq_true rfl) (Nat.le_of_ble_eq_true rfl) ?_
        exact W.dret hx hb hr (fun t ht9 hW9 => ⟨⟨_, (), rfl, trivial, ⟨(by rw [ht9]; exact hP9), hD9⟩⟩, hS.F ht9⟩) hS.2.2 dX15_meanFound_89 hlocks
  · exact absurd c_3 (by decide)
set_option maxHeartbeats 4000000 in
set_option maxRecDepth 100000 in
theorem k_Jx4a65c_clear_da8c8 (l : Launch) (D : va_G) (g : Nat → ClassId) (z0 sz : Nat) (a : Nat → Nat) (h0 : Nat) : Met l yJx4a65c_clear_da8c8 (.code yJx4a65c_clear_da8c8 cJx4a65c_clear_da8c8 4 none :: TG) (rmk 0 0 0 0) (va_Pc [.ref h0] (PP D g z0 sz [(h0, .inr (5, [.int 0, .ref (g 100), .int 0]))])) (va_Qv (fun (u : Unit) => True) (fun (u : Unit) (t : State) => va_P D vwCl [(h0, .inr (5, [.int 1, .ref (g 100), .int 0]))] t.heap ∧ va_D (va_A [(h0, .inr (5, [.int 0, .ref (g 100), .int 0]))] sz) [(h0, .inr (5, [.int 1, .ref (g 100), .int 0]))]) (va_A [(h0, .inr (5, [.int 0, .ref (g 100), .int 0]))] sz)) 0 0 (va_A [(h0, .inr (5, [.int 0, .ref (g 100), .int 0]))] sz) := by
  refine met0 (cc := cJx4a65c_clear_da8c8) (n := 4) (by decide) (Nat.le_of_ble_eq_true rfl) ?_
  intro p e s m args below meth c hx hb hr hml hown ht hlocks hnm hP0 hD0 hK hZ hsz hz ls hl
  subst hsz
  have hA : ∀ q : Nat, s.heap.size ≤ q → va_A [(h0, .inr (5, [.int 0, .ref (g 100), .int 0]))] s.heap.size q := Anw
  have hAz : ∀ q, va_A [(h0, .inr (5, [.int 0, .ref (g 100), .int 0]))] s.heap.size q → z0 ≤ q := Awz hz hD0
  have hS : va_S (va_A [(h0, .inr (5, [.int 0, .ref (g 100), .int 0]))] s.heap.size) s.heap s.heap [] := va_S.rf
  have hD : va_D (va_A [(h0, .inr (5, [.int 0, .ref (g 100), .int 0]))] s.heap.size) [(h0, .inr (5, [.int 0, .ref (g 100), .int 0]))] := hD0.self
  have hP : va_P D vwCl [(h0, .inr (5, [.int 0, .ref (g 100), .int 0]))] s.heap := hP0
  have hl : lv_has ls 4 [(0, .ref h0)] := hl
  refine lv_aload_n hx hb dJx4a65c_clear_da8c8_0 rfl (lv_at hl 0 rfl) ?_
  refine lv_dup hx hb dJx4a65c_clear_da8c8_1 rfl ?_
  refine va_get (D := D) (ci := 5) (v := .int 0) (C := RJx4a65c) (T := TJx4a65c) (N := 3) hx hb ht in_Jx4a65c hown hK.1 hP 0 rfl rfl 0 (by decide) (ht _ w_456) (u_same (ht _ w_314)) rfl dJx4a65c_clear_da8c8_2 ?_
  refine lv_iconst (v := 1) hx hb dJx4a65c_clear_da8c8_5 (by decide) ?_
  refine lv_iadd hx hb dJx4a65c_clear_da8c8_6 ?_
  refine r_topi (v := 1) (by decide) ?_
  refine va_put (D := D) (ci := 5) (v := .int 1) (ty := .int) (C := RJx4a65c) (T := TJx4a65c) (N := 3) hx hb ht in_Jx4a65c tyJx4a65c tyJx4a65c_ok nmJx4a65c hown hK.1 hP hD hS 0 rfl rfl 0 (by decide) (ht _ w_456) (u_same (ht _ w_314)) rfl (by decide +kernel) rfl rfl (Nat.le_of_ble_eq_true rfl) dJx4a65c_clear_da8c8_7 (fun H locs hP hD hS => ?_)
  have hP : va_P D vwCl [(h0, .inr (5, [.int 1, .ref (g 100), .int 0]))] H := hP
  have hD : va_D (va_A [(h0, .inr (5, [.int 0, .ref (g 100), .int 0]))] s.heap.size) [(h0, .inr (5, [.int 1, .ref (g 100), .int 0]))] := hD
  refine lv_aload_n hx hb dJx4a65c_clear_da8c8_10 rfl (lv_at hl 0 rfl) ?_
  refine va_get (D := D) (ci := 5) (v := .ref (g 100)) (C := RJx4a65c) (T := TJx4a65c) (N := 3) hx hb ht in_Jx4a65c hown hK.1 hP 0 rfl rfl 1 (by decide) (ht _ w_348) (fun _ h9 => h9) rfl dJx4a65c_clear_da8c8_11 ?_
  refine lv_astore_n (lv' := [(1, .ref (g 100)), (0, .ref h0)]) hx hb dJx4a65c_clear_da8c8_14 rfl hl (by decide) rfl (fun ls hl => ?_)
  refine lv_aload_n hx hb dJx4a65c_clear_da8c8_15 rfl (lv_at hl 1 rfl) ?_
  refine va_get (D := D) (ci := 5) (v := .int 0) (C := RJx4a65c) (T := TJx4a65c) (N := 3) hx hb ht in_Jx4a65c hown hK.1 hP 0 rfl rfl 2 (by decide) (ht _ w_355) (fun _ h9 => h9) rfl dJx4a65c_clear_da8c8_16 ?_
  refine lv_istore_n (lv' := [(2, .int 0), (1, .ref (g 100)), (0, .ref h0)]) hx hb dJx4a65c_clear_da8c8_19 rfl hl (by decide) rfl (fun ls hl => ?_)
  refine lv_aload_n hx hb dJx4a65c_clear_da8c8_20 rfl (lv_at hl 2 rfl) ?_
  refine lv_iconst (v := 0) hx hb dJx4a65c_clear_da8c8_21 (by decide) ?_
  refine lv_dup_x1 hx hb dJx4a65c_clear_da8c8_22 rfl rfl ?_
  refine va_put (D := D) (ci := 5) (v := .int 0) (ty := .int) (C := RJx4a65c) (T := TJx4a65c) (N := 3) hx hb ht in_Jx4a65c tyJx4a65c tyJx4a65c_ok nmJx4a65c hown hK.1 hP hD hS 0 rfl rfl 2 (by decide) (ht _ w_355) (fun _ h9 => h9) rfl (by decide +kernel) rfl rfl (Nat.le_of_ble_eq_true rfl) dJx4a65c_clear_da8c8_23 (fun H locs hP hD hS => ?_)
  have hP : va_P D vwCl [(h0, .inr (5, [.int 1, .ref (g 100), .int 0]))] H := hP
  have hD : va_D (va_A [(h0, .inr (5, [.int 0, .ref (g 100), .int 0]))] s.heap.size) [(h0, .inr (5, [.int 1, .ref (g 100), .int 0]))] := hD
  refine lv_istore_n (lv' := [(3, .int 0), (2, .int 0), (1, .ref (g 100)), (0, .ref h0)]) hx hb dJx4a65c_clear_da8c8_26 rfl hl (by decide) rfl (fun ls hl => ?_)
  refine lv_iload_n hx hb dJx4a65c_clear_da8c8_27 rfl (lv_at hl 0 rfl) ?_
  refine lv_iload_n hx hb dJx4a65c_clear_da8c8_28 rfl (lv_at hl 1 rfl) ?_
  refine lv_icmp_ge (tgt := 42) hx hb dJx4a65c_clear_da8c8_29 (by decide) (fun c_1 => ?_) (fun c_1 => ?_)
  · have hP9 := hP.sub (ws' := [(h0, .inr (5, [.int 1, .ref (g 100), .int 0]))]) [0] rfl
    have hD9 := hD.sub (ws' := [(h0, .inr (5, [.int 1, .ref (g 100), .int 0]))]) [0] (by decide) rfl
    refine W.widen (k := 0) (n := 0) (Nat.le_of_ble_eq_true rfl) (Nat.le_of_ble_eq_true rfl) ?_
    exact W.vret hx hb hr (fun t ht9 hW9 => ⟨⟨(), rfl, trivial, ⟨(by rw [ht9]; exact hP9), hD9⟩⟩, hS.F ht9⟩) hS.2.2 dJx4a65c_clear_da8c8_42 hlocks
  · exact absurd c_1 (by decide)
set_option maxHeartbeats 4000000 in
set_option maxRecDepth 100000 in
theorem k_X15_mend (l : Launch) (D : va_G) (g : Nat → ClassId) (z0 sz : Nat) (a : Nat → Nat) : Met l yX15_mend (.code yX15_mend cX15_mend 2 (some .int) :: TG) (rmk 1 0 0 23) (va_Pc [.ref (a 200)] (PP D g z0 sz [((a 200), f_m a g), ((a 205), .inr (5, [.int 0, .ref (g 100), .int 0]))])) (va_Qi (fun (r : Int32) (u : Unit) => (r = 0) ∧ True) (fun (u : Unit) (t : State) => va_P D vwCl [((a 200), .inr (21, [.int 0, .ref (a 201), .ref (a 202), .ref (a 203), .ref (a 204), .ref (a 205), .ref (a 206), .int 0, .int 0, .int 0, .int 0, .ref (a 208), .ref (a 209), .ref (a 210), .ref (a 211), .ref (a 212), .int 4, .int 12, .int (-1), .int 0, .ref (g 200), .ref (a 213), .int 0, .int 97, .ref (a 214), .ref (a 215), .ref (a 207), .null, .int 0]))] t.heap ∧ va_D (va_A [((a 200), f_m a g), ((a 205), .inr (5, [.int 0, .ref (g 100), .int 0]))] sz) [((a 200), .inr (21, [.int 0, .ref (a 201), .ref (a 202), .ref (a 203), .ref (a 204), .ref (a 205), .ref (a 206), .int 0, .int 0, .int 0, .int 0, .ref (a 208), .ref (a 209), .ref (a 210), .ref (a 211), .ref (a 212), .int 4, .int 12, .int (-1), .int 0, .ref (g 200), .ref (a 213), .int 0, .int 97, .ref (a 214), .ref (a 215), .ref (a 207), .null, .int 0]))]) (va_A [((a 200), f_m a g), ((a 205), .inr (5, [.int 0, .ref (g 100), .int 0]))] sz)) 0 0 (va_A [((a 200), f_m a g), ((a 205), .inr (5, [.int 0, .ref (g 100), .int 0]))] sz) := by
  refine met0 (cc := cX15_mend) (n := 2) (by decide) (Nat.le_of_ble_eq_true rfl) ?_
  intro p e s m args below meth c hx hb hr hml hown ht hlocks hnm hP0 hD0 hK hZ hsz hz ls hl
  subst hsz
  have hA : ∀ q : Nat, s.heap.size ≤ q → va_A [((a 200), f_m a g), ((a 205), .inr (5, [.int 0, .ref (g 100), .int 0]))] s.heap.size q := Anw
  have hAz : ∀ q, va_A [((a 200), f_m a g), ((a 205), .inr (5, [.int 0, .ref (g 100), .int 0]))] s.heap.size q → z0 ≤ q := Awz hz hD0
  have hS : va_S (va_A [((a 200), f_m a g), ((a 205), .inr (5, [.int 0, .ref (g 100), .int 0]))] s.heap.size) s.heap s.heap [] := va_S.rf
  have hD : va_D (va_A [((a 200), f_m a g), ((a 205), .inr (5, [.int 0, .ref (g 100), .int 0]))] s.heap.size) [((a 200), f_m a g), ((a 205), .inr (5, [.int 0, .ref (g 100), .int 0]))] := hD0.self
  have hP : va_P D vwCl [((a 200), f_m a g), ((a 205), .inr (5, [.int 0, .ref (g 100), .int 0]))] s.heap := hP0
  have hl : lv_has ls 2 [(0, .ref (a 200))] := hl
  refine lv_aload_n hx hb dX15_mend_0 rfl (lv_at hl 0 rfl) ?_
  refine lv_iconst (v := 0) hx hb dX15_mend_1 (by decide) ?_
  refine va_put (D := D) (ci := 21) (v := .int 0) (ty := .int) (C := RX15) (T := TX15) (N := 29) hx hb ht in_X15 tyX15 tyX15_ok nmX15 hown hK.1 hP hD hS 0 rfl rfl 0 (by decide) (ht _ w_303) (fun _ h9 => h9) rfl (by decide +kernel) rfl rfl (Nat.le_of_ble_eq_true rfl) dX15_mend_2 (fun H locs hP hD hS => ?_)
  have hP : va_P D vwCl [((a 200), .inr (21, [.int 0, .ref (a 201), .ref (a 202), .ref (a 203), .ref (a 204), .ref (a 205), .ref (a 206), .int 0, .int 0, .int 0, .int 0, .ref (a 208), .ref (a 209), .ref (a 210), .ref (a 211), .ref (a 212), .int 4, .int 12, .int (-1), .int 0, .ref (g 200), .ref (a 213), .int 0, .int 97, .ref (a 214), .ref (a 215), .ref (a 207), .null, .int 0])), ((a 205), .inr (5, [.int 0, .ref (g 100), .int 0]))] H := hP
  have hD : va_D (va_A [((a 200), f_m a g), ((a 205), .inr (5, [.int 0, .ref (g 100), .int 0]))] s.heap.size) [((a 200), .inr (21, [.int 0, .ref (a 201), .ref (a 202), .ref (a 203), .ref (a 204), .ref (a 205), .ref (a 206), .int 0, .int 0, .int 0, .int 0, .ref (a 208), .ref (a 209), .ref (a 210), .ref (a 211), .ref (a 212), .int 4, .int 12, .int (-1), .int 0, .ref (g 200), .ref (a 213), .int 0, .int 97, .ref (a 214), .ref (a 215), .ref (a 207), .null, .int 0])), ((a 205), .inr (5, [.int 0, .ref (g 100), .int 0]))] := hD
  refine lv_aload_n hx hb dX15_mend_5 rfl (lv_at hl 0 rfl) ?_
  refine va_get (D := D) (ci := 21) (v := .ref (a 205)) (C := RX15) (T := TX15) (N := 29) hx hb ht in_X15 hown hK.1 hP 0 rfl rfl 5 (by decide) (ht _ w_518) (fun _ h9 => h9) rfl dX15_mend_6 ?_
  have hPc : va_P D vwCl [((a 205), .inr (5, [.int 0, .ref (g 100), .int 0]))] _ := hP.sub (ws' := [((a 205), .inr (5, [.int 0, .ref (g 100), .int 0]))]) [1] rfl
  have hDc : va_D (fun q => z0 ≤ q) [((a 205), .inr (5, [.int 0, .ref (g 100), .int 0]))] := (hD.to hAz).pick (ws' := [((a 205), .inr (5, [.int 0, .ref (g 100), .int 0]))]) [1] (by decide) rfl
  have hFc := AnA (ws := [((a 200), f_m a g), ((a 205), .inr (5, [.int 0, .ref (g 100), .int 0]))]) hS.1
  refine va_callFi (va_runF (As := []) (rest := []) (hK.1.1 5 _ rfl).2 ⟨hx, hb, hml, hown, ht⟩ (k_Jx4a65c_size_8abf5 l D g z0 _ a (a 205)) (va_cwF 0 ht (gF w_356 w_358 w_359 w_323 w_357) rfl rfl rfl (hK.2.2.2.1 _ (List.mem_of_getElem? (i := 0) rfl)) (by decide +kernel) (le2 rfl rfl)) ⟨PP.blind, va_recv hK.1 hP (ci := 5) (q0 := 1) rfl rfl, PP.mk' hK hZ hz hAz hS hPc hDc⟩ rfl rfl hl.1 rfl (lv_room (Nat.le_of_ble_eq_true rfl)) dX15_mend_9 (le2 rfl rfl)) hS (fun q _ h => hFc q h) hFc (fun r u t H locs ht1 hvm hw hB hz1 hk1 hS => ?_)
  obtain ⟨rfl, hw⟩ := hw
  have hP := ro1 hP hk1
  refine lv_istore_n (lv' := [(1, .int 0), (0, .ref (a 200))]) hx hb dX15_mend_14 rfl hl (by decide) rfl (fun ls hl => ?_)
  refine lv_aload_n hx hb dX15_mend_15 rfl (lv_at hl 1 rfl) ?_
  refine va_get (D := D) (ci := 21) (v := .ref (a 205)) (C := RX15) (T := TX15) (N := 29) hx hb ht in_X15 hown hK.1 hP 0 rfl rfl 5 (by decide) (ht _ w_518) (fun _ h9 => h9) rfl dX15_mend_16 ?_
  have hPc : va_P D vwCl [((a 205), .inr (5, [.int 0, .ref (g 100), .int 0]))] _ := hP.sub (ws' := [((a 205), .inr (5, [.int 0, .ref (g 100), .int 0]))]) [1] rfl
  have hDc : va_D (fun q => z0 ≤ q) [((a 205), .inr (5, [.int 0, .ref (g 100), .int 0]))] := (hD.to hAz).pick (ws' := [((a 205), .inr (5, [.int 0, .ref (g 100), .int 0]))]) [1] (by decide) rfl
  have hFc := va_free (wc := [((a 205), .inr (5, [.int 0, .ref (g 100), .int 0]))]) hD hS hA [1] rfl
  refine va_callFv (va_runF (As := []) (rest := []) (hK.1.1 5 _ rfl).2 ⟨hx, hb, hml, hown, ht⟩ (k_Jx4a65c_clear_da8c8 l D g z0 _ a (a 205)) (va_cwF 0 ht (gF w_519 w_521 w_522 w_323 w_520) rfl rfl rfl (hK.2.2.2.1 _ (List.mem_of_getElem? (i := 8) rfl)) (by decide +kernel) (le2 rfl rfl)) ⟨PP.blind, va_recv hK.1 hP (ci := 5) (q0 := 1) rfl rfl, PP.mk' hK hZ hz hAz hS hPc hDc⟩ rfl rfl hl.1 rfl (lv_room (Nat.le_of_ble_eq_true rfl)) dX15_mend_19 (le2 rfl rfl)) hS (fun q _ h => hFc q h) hFc (fun u t H locs ht1 hvm hw hB hz1 hk1 hS => ?_)
  obtain ⟨hP1, hD1⟩ := hB
  rw [ht1] at hP1
  obtain ⟨hP, hD⟩ := va_join (wr := [((a 200), .inr (21, [.int 0, .ref (a 201), .ref (a 202), .ref (a 203), .ref (a 204), .ref (a 205), .ref (a 206), .int 0, .int 0, .int 0, .int 0, .ref (a 208), .ref (a 209), .ref (a 210), .ref (a 211), .ref (a 212), .int 4, .int 12, .int (-1), .int 0, .ref (g 200), .ref (a 213), .int 0, .int 97, .ref (a 214), .ref (a 215), .ref (a 207), .null, .int 0]))]) (w1 := [((a 205), .inr (5, [.int 1, .ref (g 100), .int 0]))]) hP hD [1] [0] rfl rfl (by decide) (by decide) hk1 hFc hP1 hD1
  have hP : va_P D vwCl [((a 200), .inr (21, [.int 0, .ref (a 201), .ref (a 202), .ref (a 203), .ref (a 204), .ref (a 205), .ref (a 206), .int 0, .int 0, .int 0, .int 0, .ref (a 208), .ref (a 209), .ref (a 210), .ref (a 211), .ref (a 212), .int 4, .int 12, .int (-1), .int 0, .ref (g 200), .ref (a 213), .int 0, .int 97, .ref (a 214), .ref (a 215), .ref (a 207), .null, .int 0])), ((a 205), .inr (5, [.int 1, .ref (g 100), .int 0]))] H := hP
  have hD : va_D (va_A [((a 200), f_m a g), ((a 205), .inr (5, [.int 0, .ref (g 100), .int 0]))] s.heap.size) [((a 200), .inr (21, [.int 0, .ref (a 201), .ref (a 202), .ref (a 203), .ref (a 204), .ref (a 205), .ref (a 206), .int 0, .int 0, .int 0, .int 0, .ref (a 208), .ref (a 209), .ref (a 210), .ref (a 211), .ref (a 212), .int 4, .int 12, .int (-1), .int 0, .ref (g 200), .ref (a 213), .int 0, .int 97, .ref (a 214), .ref (a 215), .ref (a 207), .null, .int 0])), ((a 205), .inr (5, [.int 1, .ref (g 100), .int 0]))] := hD
  refine lv_iload_n hx hb dX15_mend_24 rfl (lv_at hl 0 rfl) ?_
  have hP9 := hP.sub (ws' := [((a 200), .inr (21, [.int 0, .ref (a 201), .ref (a 202), .ref (a 203), .ref (a 204), .ref (a 205), .ref (a 206), .int 0, .int 0, .int 0, .int 0, .ref (a 208), .ref (a 209), .ref (a 210), .ref (a 211), .ref (a 212), .int 4, .int 12, .int (-1), .int 0, .ref (g 200), .ref (a 213), .int 0, .int 97, .ref (a 214), .ref (a 215), .ref (a 207), .null, .int 0]))]) [0] rfl
  have hD9 := hD.sub (ws' := [((a 200), .inr (21, [.int 0, .ref (a 201), .ref (a 202), .ref (a 203), .ref (a 204), .ref (a 205), .ref (a 206), .int 0, .int 0, .int 0, .int 0, .ref (a 208), .ref (a 209), .ref (a 210), .ref (a 211), .ref (a 212), .int 4, .int 12, .int (-1), .int 0, .ref (g 200), .ref (a 213), .int 0, .int 97, .ref (a 214), .ref (a 215), .ref (a 207), .null, .int 0]))]) [0] (by decide) rfl
  refine W.widen (k := 0) (n := 0) (Nat.le_of_ble_eq_true rfl) (Nat.le_of_ble_eq_true rfl) ?_
  exact W.iret (v := 0) hx hb hr (fun t ht9 hW9 => ⟨⟨0, (), rfl, ⟨rfl, trivial⟩, ⟨(by rw [ht9]; exact hP9), hD9⟩⟩, hS.F ht9⟩) hS.2.2 dX15_mend_25 hlocks
set_option maxHeartbeats 4000000 in
set_option maxRecDepth 100000 in
theorem k_X15_merge (l : Launch) (D : va_G) (g : Nat → ClassId) (z0 sz : Nat) (a : Nat → Nat) (p0 : Int32) (p1 : Int32) : Met l yX15_merge (.code yX15_merge cX15_merge 3 (some .int) :: TG) (rmk 2 0 0 43) (va_Pc [.ref (a 200), .int p0, .int p1] (PP D g z0 sz [((a 200), f_m a g), ((a 206), .inr (5, [.int 0, .ref (g 100), .int 0]))])) (va_Qi (fun (r : Int32) (u : Unit) => (r = 0) ∧ True) (fun (u : Unit) (t : State) => va_P D vwCl [((a 200), .inr (21, [.int 1, .ref (a 201), .ref (a 202), .ref (a 203), .ref (a 204), .ref (a 205), .ref (a 206), .int 0, .int 0, .int 0, .int 0, .ref (a 208), .ref (a 209), .ref (a 210), .ref (a 211), .ref (a 212), .int 4, .int 12, .int (-1), .int 0, .ref (g 200), .ref (a 213), .int 0, .int 97, .ref (a 214), .ref (a 215), .ref (a 207), .null, .int 0]))] t.heap ∧ va_D (va_A [((a 200), f_m a g), ((a 206), .inr (5, [.int 0, .ref (g 100), .int 0]))] sz) [((a 200), .inr (21, [.int 1, .ref (a 201), .ref (a 202), .ref (a 203), .ref (a 204), .ref (a 205), .ref (a 206), .int 0, .int 0, .int 0, .int 0, .ref (a 208), .ref (a 209), .ref (a 210), .ref (a 211), .ref (a 212), .int 4, .int 12, .int (-1), .int 0, .ref (g 200), .ref (a 213), .int 0, .int 97, .ref (a 214), .ref (a 215), .ref (a 207), .null, .int 0]))]) (va_A [((a 200), f_m a g), ((a 206), .inr (5, [.int 0, .ref (g 100), .int 0]))] sz)) 0 0 (va_A [((a 200), f_m a g), ((a 206), .inr (5, [.int 0, .ref (g 100), .int 0]))] sz) := by
  refine met0 (cc := cX15_merge) (n := 3) (by decide) (Nat.le_of_ble_eq_true rfl) ?_
  intro p e s m args below meth c hx hb hr hml hown ht hlocks hnm hP0 hD0 hK hZ hsz hz ls hl
  subst hsz
  have hA : ∀ q : Nat, s.heap.size ≤ q → va_A [((a 200), f_m a g), ((a 206), .inr (5, [.int 0, .ref (g 100), .int 0]))] s.heap.size q := Anw
  have hAz : ∀ q, va_A [((a 200), f_m a g), ((a 206), .inr (5, [.int 0, .ref (g 100), .int 0]))] s.heap.size q → z0 ≤ q := Awz hz hD0
  have hS : va_S (va_A [((a 200), f_m a g), ((a 206), .inr (5, [.int 0, .ref (g 100), .int 0]))] s.heap.size) s.heap s.heap [] := va_S.rf
  have hD : va_D (va_A [((a 200), f_m a g), ((a 206), .inr (5, [.int 0, .ref (g 100), .int 0]))] s.heap.size) [((a 200), f_m a g), ((a 206), .inr (5, [.int 0, .ref (g 100), .int 0]))] := hD0.self
  have hP : va_P D vwCl [((a 200), f_m a g), ((a 206), .inr (5, [.int 0, .ref (g 100), .int 0]))] s.heap := hP0
  have hl : lv_has ls 3 [(0, .ref (a 200)), (1, .int p0), (2, .int p1)] := hl
  refine lv_aload_n hx hb dX15_merge_0 rfl (lv_at hl 0 rfl) ?_
  refine lv_aload_n hx hb dX15_merge_1 rfl (lv_at hl 0 rfl) ?_
  refine lv_iload_n hx hb dX15_merge_2 rfl (lv_at hl 1 rfl) ?_
  have hPc : va_P D vwCl [((a 200), f_m a g), ((a 206), .inr (5, [.int 0, .ref (g 100), .int 0]))] _ := hP.sub (ws' := [((a 200), f_m a g), ((a 206), .inr (5, [.int 0, .ref (g 100), .int 0]))]) [0, 1] rfl
  have hDc : va_D (fun q => z0 ≤ q) [((a 200), f_m a g), ((a 206), .inr (5, [.int 0, .ref (g 100), .int 0]))] := (hD.to hAz).pick (ws' := [((a 200), f_m a g), ((a 206), .inr (5, [.int 0, .ref (g 100), .int 0]))]) [0, 1] (by decide) rfl
  have hFc := AnA (ws := [((a 200), f_m a g), ((a 206), .inr (5, [.int 0, .ref (g 100), .int 0]))]) hS.1
  refine va_calli (va_runV (As := [.int p0]) (rest := [.ref (a 200)]) ⟨hx, hb, hml, hown, ht⟩ (k_X15_isPattern l D g z0 _ a p0) (cwV 1 ht (gV w_498 w_500 w_501 w_334 w_499) rfl rfl rfl (by decide +kernel) (le2 rfl rfl)) ⟨PP.blind, va_recv hK.1 hP (ci := 21) (q0 := 0) rfl rfl, PP.mk' hK hZ hz hAz hS hPc hDc⟩ rfl rfl hl.1 rfl (lv_room (Nat.le_of_ble_eq_true rfl)) dX15_merge_3 (le2 rfl rfl)) hS (fun q _ h => hFc q h) hFc (fun r u t H locs ht1 hvm hw hB hz1 hk1 hS => ?_)
  obtain ⟨rfl, hw⟩ := hw
  have hP := ro1 hP hk1
  refine lv_if_eq (tgt := 17) hx hb dX15_merge_6 (by decide) (fun c_1 => ?_) (fun c_1 => ?_)
  · refine lv_iconst (v := 1) hx hb dX15_merge_17 (by decide) ?_
    refine lv_goto (tgt := 63) hx hb dX15_merge_18 (by decide) ?_
    have hPc : va_P D vwCl [((a 200), f_m a g)] _ := hP.sub (ws' := [((a 200), f_m a g)]) [0] rfl
    have hDc : va_D (fun q => z0 ≤ q) [((a 200), f_m a g)] := (hD.to hAz).pick (ws' := [((a 200), f_m a g)]) [0] (by decide) rfl
    have hFc := va_free (wc := [((a 200), f_m a g)]) hD hS hA [0] rfl
    refine va_calli (va_runV (As := [.int 1]) (rest := []) ⟨hx, hb, hml, hown, ht⟩ (k_X15_isWrong l D g z0 _ a) (cwV 1 ht (gV w_376 w_378 w_379 w_334 w_377) rfl rfl rfl (by decide +kernel) (le2 rfl rfl)) ⟨PP.blind, va_recv hK.1 hP (ci := 21) (q0 := 0) rfl rfl, PP.mk' hK hZ hz hAz hS hPc hDc⟩ rfl rfl hl.1 rfl (lv_room (Nat.le_of_ble_eq_true rfl)) dX15_merge_63 (le2 rfl rfl)) hS (fun q _ h => hFc q h) hFc (fun r u t H locs ht1 hvm hw hB hz1 hk1 hS => ?_)
    obtain ⟨rfl, hw⟩ := hw
    obtain ⟨hP1, hD1⟩ := hB
    rw [ht1] at hP1
    obtain ⟨hP, hD⟩ := va_join (wr := [((a 206), .inr (5, [.int 0, .ref (g 100), .int 0]))]) (w1 := [((a 200), .inr (21, [.int 1, .ref (a 201), .ref (a 202), .ref (a 203), .ref (a 204), .ref (a 205), .ref (a 206), .int 0, .int 0, .int 0, .int 0, .ref (a 208), .ref (a 209), .ref (a 210), .ref (a 211), .ref (a 212), .int 4, .int 12, .int (-1), .int 0, .ref (g 200), .ref (a 213), .int 0, .int 97, .ref (a 214), .ref (a 215), .ref (a 207), .null, .int 0]))]) hP hD [0] [1] rfl rfl (by decide) (by decide) hk1 hFc hP1 hD1
    have hP : va_P D vwCl [((a 206), .inr (5, [.int 0, .ref (g 100), .int 0])), ((a 200), .inr (21, [.int 1, .ref (a 201), .ref (a 202), .ref (a 203), .ref (a 204), .ref (a 205), .ref (a 206), .int 0, .int 0, .int 0, .int 0, .ref (a 208), .ref (a 209), .ref (a 210), .ref (a 211), .ref (a 212), .int 4, .int 12, .int (-1), .int 0, .ref (g 200), .ref (a 213), .int 0, .int 97, .ref (a 214), .ref (a 215), .ref (a 207), .null, .int 0]))] H := hP
    have hD : va_D (va_A [((a 200), f_m a g), ((a 206), .inr (5, [.int 0, .ref (g 100), .int 0]))] s.heap.size) [((a 206), .inr (5, [.int 0, .ref (g 100), .int 0])), ((a 200), .inr (21, [.int 1, .ref (a 201), .ref (a 202), .ref (a 203), .ref (a 204), .ref (a 205), .ref (a 206), .int 0, .int 0, .int 0, .int 0, .ref (a 208), .ref (a 209), .ref (a 210), .ref (a 211), .ref (a 212), .int 4, .int 12, .int (-1), .int 0, .ref (g 200), .ref (a 213), .int 0, .int 97, .ref (a 214), .ref (a 215), .ref (a 207), .null, .int 0]))] := hD
    refine lv_if_eq (tgt := 71) hx hb dX15_merge_66 (by decide) (fun c_2 => ?_) (fun c_2 => ?_)
    · exact absurd c_2 (by decide)
    · refine lv_iconst (v := 0) hx hb dX15_merge_69 (by decide) ?_
      have hP9 := hP.sub (ws' := [((a 200), .inr (21, [.int 1, .ref (a 201), .ref (a 202), .ref (a 203), .ref (a 204), .ref (a 205), .ref (a 206), .int 0, .int 0, .int 0, .int 0, .ref (a 208), .ref (a 209), .ref (a 210), .ref (a 211), .ref (a 212), .int 4, .int 12, .int (-1), .int 0, .ref (g 200), .ref (a 213), .int 0, .int 97, .ref (a 214), .ref (a 215), .ref (a 207), .null, .int 0]))]) [1] rfl
      have hD9 := hD.sub (ws' := [((a 200), .inr (21, [.int 1, .ref (a 201), .ref (a 202), .ref (a 203), .ref (a 204), .ref (a 205), .ref (a 206), .int 0, .int 0, .int 0, .int 0, .ref (a 208), .ref (a 209), .ref (a 210), .ref (a 211), .ref (a 212), .int 4, .int 12, .int (-1), .int 0, .ref (g 200), .ref (a 213), .int 0, .int 97, .ref (a 214), .ref (a 215), .ref (a 207), .null, .int 0]))]) [1] (by decide) rfl
      refine W.widen (k := 0) (n := 0) (Nat.le_of_ble_eq_true rfl) (Nat.le_of_ble_eq_true rfl) ?_
      exact W.iret (v := 0) hx hb hr (fun t ht9 hW9 => ⟨⟨0, (), rfl, ⟨rfl, trivial⟩, ⟨(by rw [ht9]; exact hP9), hD9⟩⟩, hS.F ht9⟩) hS.2.2 dX15_merge_70 hlocks
  · exact absurd c_1 (by decide)
set_option maxHeartbeats 4000000 in
set_option maxRecDepth 100000 in
theorem k_X15_openWire (l : Launch) (D : va_G) (g : Nat → ClassId) (z0 sz : Nat) (a : Nat → Nat) (p0 : Int32) (p1 : Int32) : Met l yX15_openWire (.code yX15_openWire cX15_openWire 4 (some .boolean) :: TG) (rmk 2 0 0 43) (va_Pc [.ref (a 200), .int p0, .int p1] (PP D g z0 sz [((a 200), f_m a g)])) (va_Qi (fun (r : Int32) (u : Unit) => (r = 0) ∧ True) (fun (u : Unit) (t : State) => va_P D vwCl [((a 200), .inr (21, [.int 1, .ref (a 201), .ref (a 202), .ref (a 203), .ref (a 204), .ref (a 205), .ref (a 206), .int 0, .int 0, .int 0, .int 0, .ref (a 208), .ref (a 209), .ref (a 210), .ref (a 211), .ref (a 212), .int 4, .int 12, .int (-1), .int 0, .ref (g 200), .ref (a 213), .int 0, .int 97, .ref (a 214), .ref (a 215), .ref (a 207), .null, .int 0]))] t.heap ∧ va_D (va_A [((a 200), f_m a g)] sz) [((a 200), .inr (21, [.int 1, .ref (a 201), .ref (a 202), .ref (a 203), .ref (a 204), .ref (a 205), .ref (a 206), .int 0, .int 0, .int 0, .int 0, .ref (a 208), .ref (a 209), .ref (a 210), .ref (a 211), .ref (a 212), .int 4, .int 12, .int (-1), .int 0, .ref (g 200), .ref (a 213), .int 0, .int 97, .ref (a 214), .ref (a 215), .ref (a 207), .null, .int 0]))]) (va_A [((a 200), f_m a g)] sz)) 0 0 (va_A [((a 200), f_m a g)] sz) := by
  refine met0 (cc := cX15_openWire) (n := 4) (by decide) (Nat.le_of_ble_eq_true rfl) ?_
  intro p e s m args below meth c hx hb hr hml hown ht hlocks hnm hP0 hD0 hK hZ hsz hz ls hl
  subst hsz
  have hA : ∀ q : Nat, s.heap.size ≤ q → va_A [((a 200), f_m a g)] s.heap.size q := Anw
  have hAz : ∀ q, va_A [((a 200), f_m a g)] s.heap.size q → z0 ≤ q := Awz hz hD0
  have hS : va_S (va_A [((a 200), f_m a g)] s.heap.size) s.heap s.heap [] := va_S.rf
  have hD : va_D (va_A [((a 200), f_m a g)] s.heap.size) [((a 200), f_m a g)] := hD0.self
  have hP : va_P D vwCl [((a 200), f_m a g)] s.heap := hP0
  have hl : lv_has ls 4 [(0, .ref (a 200)), (1, .int p0), (2, .int p1)] := hl
  refine lv_aload_n hx hb dX15_openWire_0 rfl (lv_at hl 0 rfl) ?_
  refine lv_aload_n hx hb dX15_openWire_1 rfl (lv_at hl 0 rfl) ?_
  refine lv_iload_n hx hb dX15_openWire_2 rfl (lv_at hl 1 rfl) ?_
  have hPc : va_P D vwCl [((a 200), f_m a g)] _ := hP.sub (ws' := [((a 200), f_m a g)]) [0] rfl
  have hDc : va_D (fun q => z0 ≤ q) [((a 200), f_m a g)] := (hD.to hAz).pick (ws' := [((a 200), f_m a g)]) [0] (by decide) rfl
  have hFc := AnA (ws := [((a 200), f_m a g)]) hS.1
  refine va_calli (va_runV (As := [.int p0]) (rest := [.ref (a 200)]) ⟨hx, hb, hml, hown, ht⟩ (k_X15_isWire l D g z0 _ a p0) (cwV 1 ht (gV w_502 w_504 w_505 w_334 w_503) rfl rfl rfl (by decide +kernel) (le2 rfl rfl)) ⟨PP.blind, va_recv hK.1 hP (ci := 21) (q0 := 0) rfl rfl, PP.mk' hK hZ hz hAz hS hPc hDc⟩ rfl rfl hl.1 rfl (lv_room (Nat.le_of_ble_eq_true rfl)) dX15_openWire_3 (le2 rfl rfl)) hS (fun q _ h => hFc q h) hFc (fun r u t H locs ht1 hvm hw hB hz1 hk1 hS => ?_)
  obtain ⟨rfl, hw⟩ := hw
  have hP := ro1 hP hk1
  refine lv_if_ne (tgt := 13) hx hb dX15_openWire_6 (by decide) (fun c_1 => ?_) (fun c_1 => ?_)
  · exact absurd c_1 (by decide)
  · refine lv_iconst (v := 1) hx hb dX15_openWire_9 (by decide) ?_
    refine lv_goto (tgt := 27) hx hb dX15_openWire_10 (by decide) ?_
    have hPc : va_P D vwCl [((a 200), f_m a g)] _ := hP.sub (ws' := [((a 200), f_m a g)]) [0] rfl
    have hDc : va_D (fun q => z0 ≤ q) [((a 200), f_m a g)] := (hD.to hAz).pick (ws' := [((a 200), f_m a g)]) [0] (by decide) rfl
    have hFc := va_free (wc := [((a 200), f_m a g)]) hD hS hA [0] rfl
    refine va_calli (va_runV (As := [.int 1]) (rest := []) ⟨hx, hb, hml, hown, ht⟩ (k_X15_isWrong l D g z0 _ a) (cwV 1 ht (gV w_376 w_378 w_379 w_334 w_377) rfl rfl rfl (by decide +kernel) (le2 rfl rfl)) ⟨PP.blind, va_recv hK.1 hP (ci := 21) (q0 := 0) rfl rfl, PP.mk' hK hZ hz hAz hS hPc hDc⟩ rfl rfl hl.1 rfl (lv_room (Nat.le_of_ble_eq_true rfl)) dX15_openWire_27 (le2 rfl rfl)) hS (fun q _ h => hFc q h) hFc (fun r u t H locs ht1 hvm hw hB hz1 hk1 hS => ?_)
    obtain ⟨rfl, hw⟩ := hw
    obtain ⟨hP1, hD1⟩ := hB
    rw [ht1] at hP1
    obtain ⟨hP, hD⟩ := va_join (wr := []) (w1 := [((a 200), .inr (21, [.int 1, .ref (a 201), .ref (a 202), .ref (a 203), .ref (a 204), .ref (a 205), .ref (a 206), .int 0, .int 0, .int 0, .int 0, .ref (a 208), .ref (a 209), .ref (a 210), .ref (a 211), .ref (a 212), .int 4, .int 12, .int (-1), .int 0, .ref (g 200), .ref (a 213), .int 0, .int 97, .ref (a 214), .ref (a 215), .ref (a 207), .null, .int 0]))]) hP hD [0] [] rfl rfl (by decide) (by decide) hk1 hFc hP1 hD1
    have hP : va_P D vwCl [((a 200), .inr (21, [.int 1, .ref (a 201), .ref (a 202), .ref (a 203), .ref (a 204), .ref (a 205), .ref (a 206), .int 0, .int 0, .int 0, .int 0, .ref (a 208), .ref (a 209), .ref (a 210), .ref (a 211), .ref (a 212), .int 4, .int 12, .int (-1), .int 0, .ref (g 200), .ref (a 213), .int 0, .int 97, .ref (a 214), .ref (a 215), .ref (a 207), .null, .int 0]))] H := hP
    have hD : va_D (va_A [((a 200), f_m a g)] s.heap.size) [((a 200), .inr (21, [.int 1, .ref (a 201), .ref (a 202), .ref (a 203), .ref (a 204), .ref (a 205), .ref (a 206), .int 0, .int 0, .int 0, .int 0, .ref (a 208), .ref (a 209), .ref (a 210), .ref (a 211), .ref (a 212), .int 4, .int 12, .int (-1), .int 0, .ref (g 200), .ref (a 213), .int 0, .int 97, .ref (a 214), .ref (a 215), .ref (a 207), .null, .int 0]))] := hD
    refine lv_if_eq (tgt := 35) hx hb dX15_openWire_30 (by decide) (fun c_2 => ?_) (fun c_2 => ?_)
    · exact absurd c_2 (by decide)
    · refine lv_iconst (v := 0) hx hb dX15_openWire_33 (by decide) ?_
      have hP9 := hP.sub (ws' := [((a 200), .inr (21, [.int 1, .ref (a 201), .ref (a 202), .ref (a 203), .ref (a 204), .ref (a 205), .ref (a 206), .int 0, .int 0, .int 0, .int 0, .ref (a 208), .ref (a 209), .ref (a 210), .ref (a 211), .ref (a 212), .int 4, .int 12, .int (-1), .int 0, .ref (g 200), .ref (a 213), .int 0, .int 97, .ref (a 214), .ref (a 215), .ref (a 207), .null, .int 0]))]) [0] rfl
      have hD9 := hD.sub (ws' := [((a 200), .inr (21, [.int 1, .ref (a 201), .ref (a 202), .ref (a 203), .ref (a 204), .ref (a 205), .ref (a 206), .int 0, .int 0, .int 0, .int 0, .ref (a 208), .ref (a 209), .ref (a 210), .ref (a 211), .ref (a 212), .int 4, .int 12, .int (-1), .int 0, .ref (g 200), .ref (a 213), .int 0, .int 97, .ref (a 214), .ref (a 215), .ref (a 207), .null, .int 0]))]) [0] (by decide) rfl
      refine W.widen (k := 0) (n := 0) (Nat.le_of_ble_eq_true rfl) (Nat.le_of_ble_eq_true rfl) ?_
      exact W.zret (v := 0) hx hb hr rfl (fun t ht9 hW9 => ⟨⟨0, (), rfl, ⟨rfl, trivial⟩, ⟨(by rw [ht9]; exact hP9), hD9⟩⟩, hS.F ht9⟩) hS.2.2 dX15_openWire_34 hlocks
set_option maxHeartbeats 4000000 in
set_option maxRecDepth 100000 in
theorem k_X15_orderAt (l : Launch) (D : va_G) (g : Nat → ClassId) (z0 sz : Nat) (a : Nat → Nat) (p0 : Int32) : Met l yX15_orderAt (.code yX15_orderAt cX15_orderAt 2 (some .int) :: TG) (rmk 1 0 0 22) (va_Pc [.ref (a 200), .int p0] (PP D g z0 sz [((a 200), f_m a g), ((a 206), .inr (5, [.int 0, .ref (g 100), .int 0]))])) (va_Qi (fun (r : Int32) (u : Unit) => (r = 0) ∧ True) (fun (u : Unit) (t : State) => va_P D vwCl [((a 200), .inr (21, [.int 1, .ref (a 201), .ref (a 202), .ref (a 203), .ref (a 204), .ref (a 205), .ref (a 206), .int 0, .int 0, .int 0, .int 0, .ref (a 208), .ref (a 209), .ref (a 210), .ref (a 211), .ref (a 212), .int 4, .int 12, .int (-1), .int 0, .ref (g 200), .ref (a 213), .int 0, .int 97, .ref (a 214), .ref (a 215), .ref (a 207), .null, .int 0]))] t.heap ∧ va_D (va_A [((a 200), f_m a g), ((a 206), .inr (5, [.int 0, .ref (g 100), .int 0]))] sz) [((a 200), .inr (21, [.int 1, .ref (a 201), .ref (a 202), .ref (a 203), .ref (a 204), .ref (a 205), .ref (a 206), .int 0, .int 0, .int 0, .int 0, .ref (a 208), .ref (a 209), .ref (a 210), .ref (a 211), .ref (a 212), .int 4, .int 12, .int (-1), .int 0, .ref (g 200), .ref (a 213), .int 0, .int 97, .ref (a 214), .ref (a 215), .ref (a 207), .null, .int 0]))]) (va_A [((a 200), f_m a g), ((a 206), .inr (5, [.int 0, .ref (g 100), .int 0]))] sz)) 0 0 (va_A [((a 200), f_m a g), ((a 206), .inr (5, [.int 0, .ref (g 100), .int 0]))] sz) := by
  refine met0 (cc := cX15_orderAt) (n := 2) (by decide) (Nat.le_of_ble_eq_true rfl) ?_
  intro p e s m args below meth c hx hb hr hml hown ht hlocks hnm hP0 hD0 hK hZ hsz hz ls hl
  subst hsz
  have hA : ∀ q : Nat, s.heap.size ≤ q → va_A [((a 200), f_m a g), ((a 206), .inr (5, [.int 0, .ref (g 100), .int 0]))] s.heap.size q := Anw
  have hAz : ∀ q, va_A [((a 200), f_m a g), ((a 206), .inr (5, [.int 0, .ref (g 100), .int 0]))] s.heap.size q → z0 ≤ q := Awz hz hD0
  have hS : va_S (va_A [((a 200), f_m a g), ((a 206), .inr (5, [.int 0, .ref (g 100), .int 0]))] s.heap.size) s.heap s.heap [] := va_S.rf
  have hD : va_D (va_A [((a 200), f_m a g), ((a 206), .inr (5, [.int 0, .ref (g 100), .int 0]))] s.heap.size) [((a 200), f_m a g), ((a 206), .inr (5, [.int 0, .ref (g 100), .int 0]))] := hD0.self
  have hP : va_P D vwCl [((a 200), f_m a g), ((a 206), .inr (5, [.int 0, .ref (g 100), .int 0]))] s.heap := hP0
  have hl : lv_has ls 2 [(0, .ref (a 200)), (1, .int p0)] := hl
  refine lv_aload_n hx hb dX15_orderAt_0 rfl (lv_at hl 0 rfl) ?_
  refine lv_iload_n hx hb dX15_orderAt_1 rfl (lv_at hl 1 rfl) ?_
  refine lv_iconst (v := 0) hx hb dX15_orderAt_2 (by decide) ?_
  refine lv_aload_n hx hb dX15_orderAt_3 rfl (lv_at hl 0 rfl) ?_
  refine va_get (D := D) (ci := 21) (v := .ref (a 206)) (C := RX15) (T := TX15) (N := 29) hx hb ht in_X15 hown hK.1 hP 0 rfl rfl 6 (by decide) (ht _ w_304) (fun _ h9 => h9) rfl dX15_orderAt_4 ?_
  have hPc : va_P D vwCl [((a 206), .inr (5, [.int 0, .ref (g 100), .int 0]))] _ := hP.sub (ws' := [((a 206), .inr (5, [.int 0, .ref (g 100), .int 0]))]) [1] rfl
  have hDc : va_D (fun q => z0 ≤ q) [((a 206), .inr (5, [.int 0, .ref (g 100), .int 0]))] := (hD.to hAz).pick (ws' := [((a 206), .inr (5, [.int 0, .ref (g 100), .int 0]))]) [1] (by decide) rfl
  have hFc := AnA (ws := [((a 200), f_m a g), ((a 206), .inr (5, [.int 0, .ref (g 100), .int 0]))]) hS.1
  refine va_callFi (va_runF (As := []) (rest := [.int 0, .int p0, .ref (a 200)]) (hK.1.1 5 _ rfl).2 ⟨hx, hb, hml, hown, ht⟩ (k_Jx4a65c_size_8abf5 l D g z0 _ a (a 206)) (va_cwF 0 ht (gF w_356 w_358 w_359 w_323 w_357) rfl rfl rfl (hK.2.2.2.1 _ (List.mem_of_getElem? (i := 0) rfl)) (by decide +kernel) (le2 rfl rfl)) ⟨PP.blind, va_recv hK.1 hP (ci := 5) (q0 := 1) rfl rfl, PP.mk' hK hZ hz hAz hS hPc hDc⟩ rfl rfl hl.1 rfl (lv_room (Nat.le_of_ble_eq_true rfl)) dX15_orderAt_7 (le2 rfl rfl)) hS (fun q _ h => hFc q h) hFc (fun r u t H locs ht1 hvm hw hB hz1 hk1 hS => ?_)
  obtain ⟨rfl, hw⟩ := hw
  have hP := ro1 hP hk1
  refine lv_iconst (v := 1) hx hb dX15_orderAt_12 (by decide) ?_
  refine lv_isub hx hb dX15_orderAt_13 ?_
  refine r_topi (v := (-1)) (by decide) ?_
  have hPc : va_P D vwCl [] _ := hP.sub (ws' := []) [] rfl
  have hDc : va_D (fun q => z0 ≤ q) [] := (hD.to hAz).pick (ws' := []) [] (by decide) rfl
  have hFc := AnA (ws := [((a 200), f_m a g), ((a 206), .inr (5, [.int 0, .ref (g 100), .int 0]))]) hS.1
  refine va_calli (va_runS (As := [.int p0, .int 0, .int (-1)]) (rest := [.ref (a 200)]) ⟨hx, hb, hml, hown, ht⟩ (k_X15_isBetween l D g z0 _ a p0) (va_cwS 3 ht (gS w_369 w_371 w_334 w_370) rfl rfl rfl (by decide +kernel) (le2 rfl rfl)) ⟨PP.blind, PP.mk' hK hZ hz hAz hS hPc hDc⟩ rfl rfl hl.1 rfl (lv_room (Nat.le_of_ble_eq_true rfl)) dX15_orderAt_14 (le2 rfl rfl)) hS (fun q _ h => hFc q h) hFc (fun r u t H locs ht1 hvm hw hB hz1 hk1 hS => ?_)
  obtain ⟨rfl, hw⟩ := hw
  have hP := ro1 hP hk1
  refine lv_if_eq (tgt := 24) hx hb dX15_orderAt_17 (by decide) (fun c_1 => ?_) (fun c_1 => ?_)
  · refine lv_iconst (v := 1) hx hb dX15_orderAt_24 (by decide) ?_
    have hPc : va_P D vwCl [((a 200), f_m a g)] _ := hP.sub (ws' := [((a 200), f_m a g)]) [0] rfl
    have hDc : va_D (fun q => z0 ≤ q) [((a 200), f_m a g)] := (hD.to hAz).pick (ws' := [((a 200), f_m a g)]) [0] (by decide) rfl
    have hFc := va_free (wc := [((a 200), f_m a g)]) hD hS hA [0] rfl
    refine va_calli (va_runV (As := [.int 1]) (rest := []) ⟨hx, hb, hml, hown, ht⟩ (k_X15_isWrong l D g z0 _ a) (cwV 1 ht (gV w_376 w_378 w_379 w_334 w_377) rfl rfl rfl (by decide +kernel) (le2 rfl rfl)) ⟨PP.blind, va_recv hK.1 hP (ci := 21) (q0 := 0) rfl rfl, PP.mk' hK hZ hz hAz hS hPc hDc⟩ rfl rfl hl.1 rfl (lv_room (Nat.le_of_ble_eq_true rfl)) dX15_orderAt_25 (le2 rfl rfl)) hS (fun q _ h => hFc q h) hFc (fun r u t H locs ht1 hvm hw hB hz1 hk1 hS => ?_)
    obtain ⟨rfl, hw⟩ := hw
    obtain ⟨hP1, hD1⟩ := hB
    rw [ht1] at hP1
    obtain ⟨hP, hD⟩ := va_join (wr := [((a 206), .inr (5, [.int 0, .ref (g 100), .int 0]))]) (w1 := [((a 200), .inr (21, [.int 1, .ref (a 201), .ref (a 202), .ref (a 203), .ref (a 204), .ref (a 205), .ref (a 206), .int 0, .int 0, .int 0, .int 0, .ref (a 208), .ref (a 209), .ref (a 210), .ref (a 211), .ref (a 212), .int 4, .int 12, .int (-1), .int 0, .ref (g 200), .ref (a 213), .int 0, .int 97, .ref (a 214), .ref (a 215), .ref (a 207), .null, .int 0]))]) hP hD [0] [1] rfl rfl (by decide) (by decide) hk1 hFc hP1 hD1
    have hP : va_P D vwCl [((a 206), .inr (5, [.int 0, .ref (g 100), .int 0])), ((a 200), .inr (21, [.int 1, .ref (a 201), .ref (a 202), .ref (a 203), .ref (a 204), .ref (a 205), .ref (a 206), .int 0, .int 0, .int 0, .int 0, .ref (a 208), .ref (a 209), .ref (a 210), .ref (a 211), .ref (a 212), .int 4, .int 12, .int (-1), .int 0, .ref (g 200), .ref (a 213), .int 0, .int 97, .ref (a 214), .ref (a 215), .ref (a 207), .null, .int 0]))] H := hP
    have hD : va_D (va_A [((a 200), f_m a g), ((a 206), .inr (5, [.int 0, .ref (g 100), .int 0]))] s.heap.size) [((a 206), .inr (5, [.int 0, .ref (g 100), .int 0])), ((a 200), .inr (21, [.int 1, .ref (a 201), .ref (a 202), .ref (a 203), .ref (a 204), .ref (a 205), .ref (a 206), .int 0, .int 0, .int 0, .int 0, .ref (a 208), .ref (a 209), .ref (a 210), .ref (a 211), .ref (a 212), .int 4, .int 12, .int (-1), .int 0, .ref (g 200), .ref (a 213), .int 0, .int 97, .ref (a 214), .ref (a 215), .ref (a 207), .null, .int 0]))] := hD
    refine lv_if_eq (tgt := 35) hx hb dX15_orderAt_28 (by decide) (fun c_2 => ?_) (fun c_2 => ?_)
    · exact absurd c_2 (by decide)
    · refine lv_iconst (v := 0) hx hb dX15_orderAt_31 (by decide) ?_
      refine lv_goto (tgt := 51) hx hb dX15_orderAt_32 (by decide) ?_
      have hP9 := hP.sub (ws' := [((a 200), .inr (21, [.int 1, .ref (a 201), .ref (a 202), .ref (a 203), .ref (a 204), .ref (a 205), .ref (a 206), .int 0, .int 0, .int 0, .int 0, .ref (a 208), .ref (a 209), .ref (a 210), .ref (a 211), .ref (a 212), .int 4, .int 12, .int (-1), .int 0, .ref (g 200), .ref (a 213), .int 0, .int 97, .ref (a 214), .ref (a 215), .ref (a 207), .null, .int 0]))]) [1] rfl
      have hD9 := hD.sub (ws' := [((a 200), .inr (21, [.int 1, .ref (a 201), .ref (a 202), .ref (a 203), .ref (a 204), .ref (a 205), .ref (a 206), .int 0, .int 0, .int 0, .int 0, .ref (a 208), .ref (a 209), .ref (a 210), .ref (a 211), .ref (a 212), .int 4, .int 12, .int (-1), .int 0, .ref (g 200), .ref (a 213), .int 0, .int 97, .ref (a 214), .ref (a 215), .ref (a 207), .null, .int 0]))]) [1] (by decide) rfl
      refine W.widen (k := 0) (n := 0) (Nat.le_of_ble_eq_true rfl) (Nat.le_of_ble_eq_true rfl) ?_
      exact W.iret (v := 0) hx hb hr (fun t ht9 hW9 => ⟨⟨0, (), rfl, ⟨rfl, trivial⟩, ⟨(by rw [ht9]; exact hP9), hD9⟩⟩, hS.F ht9⟩) hS.2.2 dX15_orderAt_51 hlocks
  · exact absurd c_1 (by decide)
set_option maxHeartbeats 4000000 in
set_option maxRecDepth 100000 in
theorem k_X15_output (l : Launch) (D : va_G) (g : Nat → ClassId) (z0 sz : Nat) (a : Nat → Nat) (p0 : Int32) : Met l yX15_output (.code yX15_output cX15_output 3 (some .boolean) :: TG) (rmk 2 0 0 43) (va_Pc [.ref (a 200), .int p0] (PP D g z0 sz [((a 200), f_m a g), ((a 201), .inr (5, [.int 0, .ref (g 100), .int 0]))])) (va_Qi (fun (r : Int32) (u : Unit) => (r = 0) ∧ True) (fun (u : Unit) (t : State) => va_P D vwCl [((a 200), .inr (21, [.int 1, .ref (a 201), .ref (a 202), .ref (a 203), .ref (a 204), .ref (a 205), .ref (a 206), .int 0, .int 0, .int 0, .int 0, .ref (a 208), .ref (a 209), .ref (a 210), .ref (a 211), .ref (a 212), .int 4, .int 12, .int (-1), .int 0, .ref (g 200), .ref (a 213), .int 0, .int 97, .ref (a 214), .ref (a 215), .ref (a 207), .null, .int 0]))] t.heap ∧ va_D (va_A [((a 200), f_m a g), ((a 201), .inr (5, [.int 0, .ref (g 100), .int 0]))] sz) [((a 200), .inr (21, [.int 1, .ref (a 201), .ref (a 202), .ref (a 203), .ref (a 204), .ref (a 205), .ref (a 206), .int 0, .int 0, .int 0, .int 0, .ref (a 208), .ref (a 209), .ref (a 210), .ref (a 211), .ref (a 212), .int 4, .int 12, .int (-1), .int 0, .ref (g 200), .ref (a 213), .int 0, .int 97, .ref (a 214), .ref (a 215), .ref (a 207), .null, .int 0]))]) (va_A [((a 200), f_m a g), ((a 201), .inr (5, [.int 0, .ref (g 100), .int 0]))] sz)) 0 0 (va_A [((a 200), f_m a g), ((a 201), .inr (5, [.int 0, .ref (g 100), .int 0]))] sz) := by
  refine met0 (cc := cX15_output) (n := 3) (by decide) (Nat.le_of_ble_eq_true rfl) ?_
  intro p e s m args below meth c hx hb hr hml hown ht hlocks hnm hP0 hD0 hK hZ hsz hz ls hl
  subst hsz
  have hA : ∀ q : Nat, s.heap.size ≤ q → va_A [((a 200), f_m a g), ((a 201), .inr (5, [.int 0, .ref (g 100), .int 0]))] s.heap.size q := Anw
  have hAz : ∀ q, va_A [((a 200), f_m a g), ((a 201), .inr (5, [.int 0, .ref (g 100), .int 0]))] s.heap.size q → z0 ≤ q := Awz hz hD0
  have hS : va_S (va_A [((a 200), f_m a g), ((a 201), .inr (5, [.int 0, .ref (g 100), .int 0]))] s.heap.size) s.heap s.heap [] := va_S.rf
  have hD : va_D (va_A [((a 200), f_m a g), ((a 201), .inr (5, [.int 0, .ref (g 100), .int 0]))] s.heap.size) [((a 200), f_m a g), ((a 201), .inr (5, [.int 0, .ref (g 100), .int 0]))] := hD0.self
  have hP : va_P D vwCl [((a 200), f_m a g), ((a 201), .inr (5, [.int 0, .ref (g 100), .int 0]))] s.heap := hP0
  have hl : lv_has ls 3 [(0, .ref (a 200)), (1, .int p0)] := hl
  refine lv_aload_n hx hb dX15_output_0 rfl (lv_at hl 0 rfl) ?_
  refine lv_aload_n hx hb dX15_output_1 rfl (lv_at hl 0 rfl) ?_
  refine lv_iload_n hx hb dX15_output_2 rfl (lv_at hl 1 rfl) ?_
  have hPc : va_P D vwCl [((a 200), f_m a g), ((a 201), .inr (5, [.int 0, .ref (g 100), .int 0]))] _ := hP.sub (ws' := [((a 200), f_m a g), ((a 201), .inr (5, [.int 0, .ref (g 100), .int 0]))]) [0, 1] rfl
  have hDc : va_D (fun q => z0 ≤ q) [((a 200), f_m a g), ((a 201), .inr (5, [.int 0, .ref (g 100), .int 0]))] := (hD.to hAz).pick (ws' := [((a 200), f_m a g), ((a 201), .inr (5, [.int 0, .ref (g 100), .int 0]))]) [0, 1] (by decide) rfl
  have hFc := AnA (ws := [((a 200), f_m a g), ((a 201), .inr (5, [.int 0, .ref (g 100), .int 0]))]) hS.1
  refine va_calli (va_runV (As := [.int p0]) (rest := [.ref (a 200)]) ⟨hx, hb, hml, hown, ht⟩ (k_X15_isLine l D g z0 _ a p0) (cwV 1 ht (gV w_429 w_431 w_432 w_334 w_430) rfl rfl rfl (by decide +kernel) (le2 rfl rfl)) ⟨PP.blind, va_recv hK.1 hP (ci := 21) (q0 := 0) rfl rfl, PP.mk' hK hZ hz hAz hS hPc hDc⟩ rfl rfl hl.1 rfl (lv_room (Nat.le_of_ble_eq_true rfl)) dX15_output_3 (le2 rfl rfl)) hS (fun q _ h => hFc q h) hFc (fun r u t H locs ht1 hvm hw hB hz1 hk1 hS => ?_)
  obtain ⟨rfl, hw⟩ := hw
  have hP := ro1 hP hk1
  refine lv_if_ne (tgt := 13) hx hb dX15_output_6 (by decide) (fun c_1 => ?_) (fun c_1 => ?_)
  · exact absurd c_1 (by decide)
  · refine lv_iconst (v := 1) hx hb dX15_output_9 (by decide) ?_
    refine lv_goto (tgt := 25) hx hb dX15_output_10 (by decide) ?_
    have hPc : va_P D vwCl [((a 200), f_m a g)] _ := hP.sub (ws' := [((a 200), f_m a g)]) [0] rfl
    have hDc : va_D (fun q => z0 ≤ q) [((a 200), f_m a g)] := (hD.to hAz).pick (ws' := [((a 200), f_m a g)]) [0] (by decide) rfl
    have hFc := va_free (wc := [((a 200), f_m a g)]) hD hS hA [0] rfl
    refine va_calli (va_runV (As := [.int 1]) (rest := []) ⟨hx, hb, hml, hown, ht⟩ (k_X15_isWrong l D g z0 _ a) (cwV 1 ht (gV w_376 w_378 w_379 w_334 w_377) rfl rfl rfl (by decide +kernel) (le2 rfl rfl)) ⟨PP.blind, va_recv hK.1 hP (ci := 21) (q0 := 0) rfl rfl, PP.mk' hK hZ hz hAz hS hPc hDc⟩ rfl rfl hl.1 rfl (lv_room (Nat.le_of_ble_eq_true rfl)) dX15_output_25 (le2 rfl rfl)) hS (fun q _ h => hFc q h) hFc (fun r u t H locs ht1 hvm hw hB hz1 hk1 hS => ?_)
    obtain ⟨rfl, hw⟩ := hw
    obtain ⟨hP1, hD1⟩ := hB
    rw [ht1] at hP1
    obtain ⟨hP, hD⟩ := va_join (wr := [((a 201), .inr (5, [.int 0, .ref (g 100), .int 0]))]) (w1 := [((a 200), .inr (21, [.int 1, .ref (a 201), .ref (a 202), .ref (a 203), .ref (a 204), .ref (a 205), .ref (a 206), .int 0, .int 0, .int 0, .int 0, .ref (a 208), .ref (a 209), .ref (a 210), .ref (a 211), .ref (a 212), .int 4, .int 12, .int (-1), .int 0, .ref (g 200), .ref (a 213), .int 0, .int 97, .ref (a 214), .ref (a 215), .ref (a 207), .null, .int 0]))]) hP hD [0] [1] rfl rfl (by decide) (by decide) hk1 hFc hP1 hD1
    have hP : va_P D vwCl [((a 201), .inr (5, [.int 0, .ref (g 100), .int 0])), ((a 200), .inr (21, [.int 1, .ref (a 201), .ref (a 202), .ref (a 203), .ref (a 204), .ref (a 205), .ref (a 206), .int 0, .int 0, .int 0, .int 0, .ref (a 208), .ref (a 209), .ref (a 210), .ref (a 211), .ref (a 212), .int 4, .int 12, .int (-1), .int 0, .ref (g 200), .ref (a 213), .int 0, .int 97, .ref (a 214), .ref (a 215), .ref (a 207), .null, .int 0]))] H := hP
    have hD : va_D (va_A [((a 200), f_m a g), ((a 201), .inr (5, [.int 0, .ref (g 100), .int 0]))] s.heap.size) [((a 201), .inr (5, [.int 0, .ref (g 100), .int 0])), ((a 200), .inr (21, [.int 1, .ref (a 201), .ref (a 202), .ref (a 203), .ref (a 204), .ref (a 205), .ref (a 206), .int 0, .int 0, .int 0, .int 0, .ref (a 208), .ref (a 209), .ref (a 210), .ref (a 211), .ref (a 212), .int 4, .int 12, .int (-1), .int 0, .ref (g 200), .ref (a 213), .int 0, .int 97, .ref (a 214), .ref (a 215), .ref (a 207), .null, .int 0]))] := hD
    refine lv_if_eq (tgt := 33) hx hb dX15_output_28 (by decide) (fun c_2 => ?_) (fun c_2 => ?_)
    · exact absurd c_2 (by decide)
    · refine lv_iconst (v := 0) hx hb dX15_output_31 (by decide) ?_
      have hP9 := hP.sub (ws' := [((a 200), .inr (21, [.int 1, .ref (a 201), .ref (a 202), .ref (a 203), .ref (a 204), .ref (a 205), .ref (a 206), .int 0, .int 0, .int 0, .int 0, .ref (a 208), .ref (a 209), .ref (a 210), .ref (a 211), .ref (a 212), .int 4, .int 12, .int (-1), .int 0, .ref (g 200), .ref (a 213), .int 0, .int 97, .ref (a 214), .ref (a 215), .ref (a 207), .null, .int 0]))]) [1] rfl
      have hD9 := hD.sub (ws' := [((a 200), .inr (21, [.int 1, .ref (a 201), .ref (a 202), .ref (a 203), .ref (a 204), .ref (a 205), .ref (a 206), .int 0, .int 0, .int 0, .int 0, .ref (a 208), .ref (a 209), .ref (a 210), .ref (a 211), .ref (a 212), .int 4, .int 12, .int (-1), .int 0, .ref (g 200), .ref (a 213), .int 0, .int 97, .ref (a 214), .ref (a 215), .ref (a 207), .null, .int 0]))]) [1] (by decide) rfl
      refine W.widen (k := 0) (n := 0) (Nat.le_of_ble_eq_true rfl) (Nat.le_of_ble_eq_true rfl) ?_
      exact W.zret (v := 0) hx hb hr rfl (fun t ht9 hW9 => ⟨⟨0, (), rfl, ⟨rfl, trivial⟩, ⟨(by rw [ht9]; exact hP9), hD9⟩⟩, hS.F ht9⟩) hS.2.2 dX15_output_32 hlocks
set_option maxHeartbeats 4000000 in
set_option maxRecDepth 100000 in
theorem k_X15_pattern (l : Launch) (D : va_G) (g : Nat → ClassId) (z0 sz : Nat) (a : Nat → Nat) (p0 : Int32) (p1 : Int32) : Met l yX15_pattern (.code yX15_pattern cX15_pattern 7 (some .int) :: TG) (rmk 1 0 0 22) (va_Pc [.ref (a 200), .int p0, .int p1] (PP D g z0 sz [((a 200), f_m a g), ((a 202), .inr (5, [.int 0, .ref (g 100), .int 0]))])) (va_Qi (fun (r : Int32) (u : Int32) => ((r = 0) ∧ (u = 1) ∧ ((p0 < 0) ∨ ((¬ p0 < 0) ∧ ((0 : Int32) < p0)) ∨ ((¬ p0 < 0) ∧ (¬ (0 : Int32) < p0) ∧ (p1 < 0)) ∨ ((¬ p0 < 0) ∧ (¬ (0 : Int32) < p0) ∧ (¬ p1 < 0) ∧ ((0 : Int32) < p1)) ∨ ((¬ p0 < 0) ∧ (¬ (0 : Int32) < p0) ∧ (¬ p1 < 0) ∧ (¬ (0 : Int32) < p1) ∧ (¬ (p1 &&& (p0 ^^^ (-1))) = 0)))) ∨ ((r = 0) ∧ (u = 2) ∧ ((¬ p0 < 0) ∧ (¬ (0 : Int32) < p0) ∧ (¬ p1 < 0) ∧ (¬ (0 : Int32) < p1) ∧ ((p1 &&& (p0 ^^^ (-1))) = 0)))) (fun (u : Int32) (t : State) => va_P D vwCl [((a 200), .inr (21, [.int u, .ref (a 201), .ref (a 202), .ref (a 203), .ref (a 204), .ref (a 205), .ref (a 206), .int 0, .int 0, .int 0, .int 0, .ref (a 208), .ref (a 209), .ref (a 210), .ref (a 211), .ref (a 212), .int 4, .int 12, .int (-1), .int 0, .ref (g 200), .ref (a 213), .int 0, .int 97, .ref (a 214), .ref (a 215), .ref (a 207), .null, .int 0]))] t.heap ∧ va_D (va_A [((a 200), f_m a g), ((a 202), .inr (5, [.int 0, .ref (g 100), .int 0]))] sz) [((a 200), .inr (21, [.int u, .ref (a 201), .ref (a 202), .ref (a 203), .ref (a 204), .ref (a 205), .ref (a 206), .int 0, .int 0, .int 0, .int 0, .ref (a 208), .ref (a 209), .ref (a 210), .ref (a 211), .ref (a 212), .int 4, .int 12, .int (-1), .int 0, .ref (g 200), .ref (a 213), .int 0, .int 97, .ref (a 214), .ref (a 215), .ref (a 207), .null, .int 0]))]) (va_A [((a 200), f_m a g), ((a 202), .inr (5, [.int 0, .ref (g 100), .int 0]))] sz)) 0 0 (va_A [((a 200), f_m a g), ((a 202), .inr (5, [.int 0, .ref (g 100), .int 0]))] sz) := by
  refine met0 (cc := cX15_pattern) (n := 7) (by decide) (Nat.le_of_ble_eq_true rfl) ?_
  intro p e s m args below meth c hx hb hr hml hown ht hlocks hnm hP0 hD0 hK hZ hsz hz ls hl
  subst hsz
  have hA : ∀ q : Nat, s.heap.size ≤ q → va_A [((a 200), f_m a g), ((a 202), .inr (5, [.int 0, .ref (g 100), .int 0]))] s.heap.size q := Anw
  have hAz : ∀ q, va_A [((a 200), f_m a g), ((a 202), .inr (5, [.int 0, .ref (g 100), .int 0]))] s.heap.size q → z0 ≤ q := Awz hz hD0
  have hS : va_S (va_A [((a 200), f_m a g), ((a 202), .inr (5, [.int 0, .ref (g 100), .int 0]))] s.heap.size) s.heap s.heap [] := va_S.rf
  have hD : va_D (va_A [((a 200), f_m a g), ((a 202), .inr (5, [.int 0, .ref (g 100), .int 0]))] s.heap.size) [((a 200), f_m a g), ((a 202), .inr (5, [.int 0, .ref (g 100), .int 0]))] := hD0.self
  have hP : va_P D vwCl [((a 200), f_m a g), ((a 202), .inr (5, [.int 0, .ref (g 100), .int 0]))] s.heap := hP0
  have hl : lv_has ls 7 [(0, .ref (a 200)), (1, .int p0), (2, .int p1)] := hl
  refine lv_iconst (v := 1) hx hb dX15_pattern_0 (by decide) ?_
  refine lv_aload_n hx hb dX15_pattern_1 rfl (lv_at hl 0 rfl) ?_
  refine va_get (D := D) (ci := 21) (v := .ref (a 202)) (C := RX15) (T := TX15) (N := 29) hx hb ht in_X15 hown hK.1 hP 0 rfl rfl 2 (by decide) (ht _ w_437) (fun _ h9 => h9) rfl dX15_pattern_2 ?_
  have hPc : va_P D vwCl [((a 202), .inr (5, [.int 0, .ref (g 100), .int 0]))] _ := hP.sub (ws' := [((a 202), .inr (5, [.int 0, .ref (g 100), .int 0]))]) [1] rfl
  have hDc : va_D (fun q => z0 ≤ q) [((a 202), .inr (5, [.int 0, .ref (g 100), .int 0]))] := (hD.to hAz).pick (ws' := [((a 202), .inr (5, [.int 0, .ref (g 100), .int 0]))]) [1] (by decide) rfl
  have hFc := AnA (ws := [((a 200), f_m a g), ((a 202), .inr (5, [.int 0, .ref (g 100), .int 0]))]) hS.1
  refine va_callFi (va_runF (As := []) (rest := [.int 1]) (hK.1.1 5 _ rfl).2 ⟨hx, hb, hml, hown, ht⟩ (k_Jx4a65c_size_8abf5 l D g z0 _ a (a 202)) (va_cwF 0 ht (gF w_356 w_358 w_359 w_323 w_357) rfl rfl rfl (hK.2.2.2.1 _ (List.mem_of_getElem? (i := 0) rfl)) (by decide +kernel) (le2 rfl rfl)) ⟨PP.blind, va_recv hK.1 hP (ci := 5) (q0 := 1) rfl rfl, PP.mk' hK hZ hz hAz hS hPc hDc⟩ rfl rfl hl.1 rfl (lv_room (Nat.le_of_ble_eq_true rfl)) dX15_pattern_5 (le2 rfl rfl)) hS (fun q _ h => hFc q h) hFc (fun r u t H locs ht1 hvm hw hB hz1 hk1 hS => ?_)
  obtain ⟨rfl, hw⟩ := hw
  have hP := ro1 hP hk1
  refine lv_ishl hx hb dX15_pattern_10 ?_
  refine r_topi (v := 1) (by decide) ?_
  refine lv_iconst (v := 1) hx hb dX15_pattern_11 (by decide) ?_
  refine lv_isub hx hb dX15_pattern_12 ?_
  refine r_topi (v := 0) (by decide) ?_
  refine lv_istore_n (lv' := [(3, .int 0), (0, .ref (a 200)), (1, .int p0), (2, .int p1)]) hx hb dX15_pattern_13 rfl hl (by decide) rfl (fun ls hl => ?_)
  refine lv_iload_n hx hb dX15_pattern_14 rfl (lv_at hl 2 rfl) ?_
  refine lv_iconst (v := 0) hx hb dX15_pattern_15 (by decide) ?_
  refine lv_iload_n hx hb dX15_pattern_16 rfl (lv_at hl 0 rfl) ?_
  have hPc : va_P D vwCl [] _ := hP.sub (ws' := []) [] rfl
  have hDc : va_D (fun q => z0 ≤ q) [] := (hD.to hAz).pick (ws' := []) [] (by decide) rfl
  have hFc := AnA (ws := [((a 200), f_m a g), ((a 202), .inr (5, [.int 0, .ref (g 100), .int 0]))]) hS.1
  refine va_calli (va_runS (As := [.int p0, .int 0, .int 0]) (rest := []) ⟨hx, hb, hml, hown, ht⟩ (k_X15_isBetween_v8 l D g z0 _ a p0) (va_cwS 3 ht (gS w_369 w_371 w_334 w_370) rfl rfl rfl (by decide +kernel) (le2 rfl rfl)) ⟨PP.blind, PP.mk' hK hZ hz hAz hS hPc hDc⟩ rfl rfl hl.1 rfl (lv_room (Nat.le_of_ble_eq_true rfl)) dX15_pattern_17 (le2 rfl rfl)) hS (fun q _ h => hFc q h) hFc (fun r u t H locs ht1 hvm hw hB hz1 hk1 hS => ?_)
  rcases hw with hw | hw
  · obtain ⟨rfl, hw⟩ := hw
    rcases hw with hw | hw
    · have c_1 := hw
      have hP := ro1 hP hk1
      refine lv_if_eq (tgt := 44) hx hb dX15_pattern_20 (by decide) (fun c_2 => ?_) (fun c_2 => ?_)
      · refine lv_iconst (v := 0) hx hb dX15_pattern_44 (by decide) ?_
        refine lv_istore (lv' := [(4, .int 0), (3, .int 0), (0, .ref (a 200)), (1, .int p0), (2, .int p1)]) hx hb dX15_pattern_45 hl (by decide) rfl (fun ls hl => ?_)
        refine lv_aload_n hx hb dX15_pattern_47 rfl (lv_at hl 2 rfl) ?_
        refine lv_iload hx hb dX15_pattern_48 (lv_at hl 0 rfl) ?_
        refine lv_if_ne (tgt := 57) hx hb dX15_pattern_50 (by decide) (fun c_3 => ?_) (fun c_3 => ?_)
        · exact absurd c_3 (by decide)
        · refine lv_iconst (v := 1) hx hb dX15_pattern_53 (by decide) ?_
          refine lv_goto (tgt := 87) hx hb dX15_pattern_54 (by decide) ?_
          have hPc : va_P D vwCl [((a 200), f_m a g)] _ := hP.sub (ws' := [((a 200), f_m a g)]) [0] rfl
          have hDc : va_D (fun q => z0 ≤ q) [((a 200), f_m a g)] := (hD.to hAz).pick (ws' := [((a 200), f_m a g)]) [0] (by decide) rfl
          have hFc := va_free (wc := [((a 200), f_m a g)]) hD hS hA [0] rfl
          refine va_calli (va_runV (As := [.int 1]) (rest := []) ⟨hx, hb, hml, hown, ht⟩ (k_X15_isWrong l D g z0 _ a) (cwV 1 ht (gV w_376 w_378 w_379 w_334 w_377) rfl rfl rfl (by decide +kernel) (le2 rfl rfl)) ⟨PP.blind, va_recv hK.1 hP (ci := 21) (q0 := 0) rfl rfl, PP.mk' hK hZ hz hAz hS hPc hDc⟩ rfl rfl hl.1 rfl (lv_room (Nat.le_of_ble_eq_true rfl)) dX15_pattern_87 (le2 rfl rfl)) hS (fun q _ h => hFc q h) hFc (fun r u t H locs ht1 hvm hw hB hz1 hk1 hS => ?_)
          obtain ⟨rfl, hw⟩ := hw
          obtain ⟨hP1, hD1⟩ := hB
          rw [ht1] at hP1
          obtain ⟨hP, hD⟩ := va_join (wr := [((a 202), .inr (5, [.int 0, .ref (g 100), .int 0]))]) (w1 := [((a 200), .inr (21, [.int 1, .ref (a 201), .ref (a 202), .ref (a 203), .ref (a 204), .ref (a 205), .ref (a 206), .int 0, .int 0, .int 0, .int 0, .ref (a 208), .ref (a 209), .ref (a 210), .ref (a 211), .ref (a 212), .int 4, .int 12, .int (-1), .int 0, .ref (g 200), .ref (a 213), .int 0, .int 97, .ref (a 214), .ref (a 215), .ref (a 207), .null, .int 0]))]) hP hD [0] [1] rfl rfl (by decide) (by decide) hk1 hFc hP1 hD1
          have hP : va_P D vwCl [((a 202), .inr (5, [.int 0, .ref (g 100), .int 0])), ((a 200), .inr (21, [.int 1, .ref (a 201), .ref (a 202), .ref (a 203), .ref (a 204), .ref (a 205), .ref (a 206), .int 0, .int 0, .int 0, .int 0, .ref (a 208), .ref (a 209), .ref (a 210), .ref (a 211), .ref (a 212), .int 4, .int 12, .int (-1), .int 0, .ref (g 200), .ref (a 213), .int 0, .int 97, .ref (a 214), .ref (a 215), .ref (a 207), .null, .int 0]))] H := hP
          have hD : va_D (va_A [((a 200), f_m a g), ((a 202), .inr (5, [.int 0, .ref (g 100), .int 0]))] s.heap.size) [((a 202), .inr (5, [.int 0, .ref (g 100), .int 0])), ((a 200), .inr (21, [.int 1, .ref (a 201), .ref (a 202), .ref (a 203), .ref (a 204), .ref (a 205), .ref (a 206), .int 0, .int 0, .int 0, .int 0, .ref (a 208), .ref (a 209), .ref (a 210), .ref (a 211), .ref (a 212), .int 4, .int 12, .int (-1), .int 0, .ref (g 200), .ref (a 213), .int 0, .int 97, .ref (a 214), .ref (a 215), .ref (a 207), .null, .int 0]))] := hD
          refine lv_if_eq (tgt := 95) hx hb dX15_pattern_90 (by decide) (fun c_4 => ?_) (fun c_4 => ?_)
          · exact absurd c_4 (by decide)
          · refine lv_iconst (v := 0) hx hb dX15_pattern_93 (by decide) ?_
            have hP9 := hP.sub (ws' := [((a 200), .inr (21, [.int 1, .ref (a 201), .ref (a 202), .ref (a 203), .ref (a 204), .ref (a 205), .ref (a 206), .int 0, .int 0, .int 0, .int 0, .ref (a 208), .ref (a 209), .ref (a 210), .ref (a 211), .ref (a 212), .int 4, .int 12, .int (-1), .int 0, .ref (g 200), .ref (a 213), .int 0, .int 97, .ref (a 214), .ref (a 215), .ref (a 207), .null, .int 0]))]) [1] rfl
            have hD9 := hD.sub (ws' := [((a 200), .inr (21, [.int 1, .ref (a 201), .ref (a 202), .ref (a 203), .ref (a 204), .ref (a 205), .ref (a 206), .int 0, .int 0, .int 0, .int 0, .ref (a 208), .ref (a 209), .ref (a 210), .ref (a 211), .ref (a 212), .int 4, .int 12, .int (-1), .int 0, .ref (g 200), .ref (a 213), .int 0, .int 97, .ref (a 214), .ref (a 215), .ref (a 207), .null, .int 0]))]) [1] (by decide) rfl
            refine W.widen (k := 0) (n := 0) (Nat.le_of_ble_eq_true rfl) (Nat.le_of_ble_eq_true rfl) ?_
            exact W.iret (v := 0) hx hb hr (fun t ht9 hW9 => ⟨⟨0, 1, rfl, (Or.inl ⟨rfl, rfl, (Or.inl c_1)⟩), ⟨(by rw [ht9]; exact hP9), hD9⟩⟩, hS.F ht9⟩) hS.2.2 dX15_pattern_94 hlocks
      · exact absurd c_2 (by decide)
    · obtain ⟨c_5, c_6⟩ := hw
      have hP := ro1 hP hk1
      refine lv_if_eq (tgt := 44) hx hb dX15_pattern_20 (by decide) (fun c_7 => ?_) (fun c_7 => ?_)
      · refine lv_iconst (v := 0) hx hb dX15_pattern_44 (by decide) ?_
        refine lv_istore (lv' := [(4, .int 0), (3, .int 0), (0, .ref (a 200)), (1, .int p0), (2, .int p1)]) hx hb dX15_pattern_45 hl (by decide) rfl (fun ls hl => ?_)
        refine lv_aload_n hx hb dX15_pattern_47 rfl (lv_at hl 2 rfl) ?_
        refine lv_iload hx hb dX15_pattern_48 (lv_at hl 0 rfl) ?_
        refine lv_if_ne (tgt := 57) hx hb dX15_pattern_50 (by decide) (fun c_8 => ?_) (fun c_8 => ?_)
        · exact absurd c_8 (by decide)
        · refine lv_iconst (v := 1) hx hb dX15_pattern_53 (by decide) ?_
          refine lv_goto (tgt := 87) hx hb dX15_pattern_54 (by decide) ?_
          have hPc : va_P D vwCl [((a 200), f_m a g)] _ := hP.sub (ws' := [((a 200), f_m a g)]) [0] rfl
          have hDc : va_D (fun q => z0 ≤ q) [((a 200), f_m a g)] := (hD.to hAz).pick (ws' := [((a 200), f_m a g)]) [0] (by decide) rfl
          have hFc := va_free (wc := [((a 200), f_m a g)]) hD hS hA [0] rfl
          refine va_calli (va_runV (As := [.int 1]) (rest := []) ⟨hx, hb, hml, hown, ht⟩ (k_X15_isWrong l D g z0 _ a) (cwV 1 ht (gV w_376 w_378 w_379 w_334 w_377) rfl rfl rfl (by decide +kernel) (le2 rfl rfl)) ⟨PP.blind, va_recv hK.1 hP (ci := 21) (q0 := 0) rfl rfl, PP.mk' hK hZ hz hAz hS hPc hDc⟩ rfl rfl hl.1 rfl (lv_room (Nat.le_of_ble_eq_true rfl)) dX15_pattern_87 (le2 rfl rfl)) hS (fun q _ h => hFc q h) hFc (fun r u t H locs ht1 hvm hw hB hz1 hk1 hS => ?_)
          obtain ⟨rfl, hw⟩ := hw
          obtain ⟨hP1, hD1⟩ := hB
          rw [ht1] at hP1
          obtain ⟨hP, hD⟩ := va_join (wr := [((a 202), .inr (5, [.int 0, .ref (g 100), .int 0]))]) (w1 := [((a 200), .inr (21, [.int 1, .ref (a 201), .ref (a 202), .ref (a 203), .ref (a 204), .ref (a 205), .ref (a 206), .int 0, .int 0, .int 0, .int 0, .ref (a 208), .ref (a 209), .ref (a 210), .ref (a 211), .ref (a 212), .int 4, .int 12, .int (-1), .int 0, .ref (g 200), .ref (a 213), .int 0, .int 97, .ref (a 214), .ref (a 215), .ref (a 207), .null, .int 0]))]) hP hD [0] [1] rfl rfl (by decide) (by decide) hk1 hFc hP1 hD1
          have hP : va_P D vwCl [((a 202), .inr (5, [.int 0, .ref (g 100), .int 0])), ((a 200), .inr (21, [.int 1, .ref (a 201), .ref (a 202), .ref (a 203), .ref (a 204), .ref (a 205), .ref (a 206), .int 0, .int 0, .int 0, .int 0, .ref (a 208), .ref (a 209), .ref (a 210), .ref (a 211), .ref (a 212), .int 4, .int 12, .int (-1), .int 0, .ref (g 200), .ref (a 213), .int 0, .int 97, .ref (a 214), .ref (a 215), .ref (a 207), .null, .int 0]))] H := hP
          have hD : va_D (va_A [((a 200), f_m a g), ((a 202), .inr (5, [.int 0, .ref (g 100), .int 0]))] s.heap.size) [((a 202), .inr (5, [.int 0, .ref (g 100), .int 0])), ((a 200), .inr (21, [.int 1, .ref (a 201), .ref (a 202), .ref (a 203), .ref (a 204), .ref (a 205), .ref (a 206), .int 0, .int 0, .int 0, .int 0, .ref (a 208), .ref (a 209), .ref (a 210), .ref (a 211), .ref (a 212), .int 4, .int 12, .int (-1), .int 0, .ref (g 200), .ref (a 213), .int 0, .int 97, .ref (a 214), .ref (a 215), .ref (a 207), .null, .int 0]))] := hD
          refine lv_if_eq (tgt := 95) hx hb dX15_pattern_90 (by decide) (fun c_9 => ?_) (fun c_9 => ?_)
          · exact absurd c_9 (by decide)
          · refine lv_iconst (v := 0) hx hb dX15_pattern_93 (by decide) ?_
            have hP9 := hP.sub (ws' := [((a 200), .inr (21, [.int 1, .ref (a 201), .ref (a 202), .ref (a 203), .ref (a 204), .ref (a 205), .ref (a 206), .int 0, .int 0, .int 0, .int 0, .ref (a 208), .ref (a 209), .ref (a 210), .ref (a 211), .ref (a 212), .int 4, .int 12, .int (-1), .int 0, .ref (g 200), .ref (a 213), .int 0, .int 97, .ref (a 214), .ref (a 215), .ref (a 207), .null, .int 0]))]) [1] rfl
            have hD9 := hD.sub (ws' := [((a 200), .inr (21, [.int 1, .ref (a 201), .ref (a 202), .ref (a 203), .ref (a 204), .ref (a 205), .ref (a 206), .int 0, .int 0, .int 0, .int 0, .ref (a 208), .ref (a 209), .ref (a 210), .ref (a 211), .ref (a 212), .int 4, .int 12, .int (-1), .int 0, .ref (g 200), .ref (a 213), .int 0, .int 97, .ref (a 214), .ref (a 215), .ref (a 207), .null, .int 0]))]) [1] (by decide) rfl
            refine W.widen (k := 0) (n := 0) (Nat.le_of_ble_eq_true rfl) (Nat.le_of_ble_eq_true rfl) ?_
            exact W.iret (v := 0) hx hb hr (fun t ht9 hW9 => ⟨⟨0, 1, rfl, (Or.inl ⟨rfl, rfl, (Or.inr (Or.inl ⟨c_5, c_6⟩))⟩), ⟨(by rw [ht9]; exact hP9), hD9⟩⟩, hS.F ht9⟩) hS.2.2 dX15_pattern_94 hlocks
      · exact absurd c_7 (by decide)
  · obtain ⟨rfl, hw⟩ := hw
    obtain ⟨c_10, c_11⟩ := hw
    have hP := ro1 hP hk1
    refine lv_if_eq (tgt := 44) hx hb dX15_pattern_20 (by decide) (fun c_12 => ?_) (fun c_12 => ?_)
    · exact absurd c_12 (by decide)
    · refine lv_iload_n hx hb dX15_pattern_23 rfl (lv_at hl 3 rfl) ?_
      refine lv_iconst (v := 0) hx hb dX15_pattern_24 (by decide) ?_
      refine lv_iload_n hx hb dX15_pattern_25 rfl (lv_at hl 0 rfl) ?_
      have hPc : va_P D vwCl [] _ := hP.sub (ws' := []) [] rfl
      have hDc : va_D (fun q => z0 ≤ q) [] := (hD.to hAz).pick (ws' := []) [] (by decide) rfl
      have hFc := AnA (ws := [((a 200), f_m a g), ((a 202), .inr (5, [.int 0, .ref (g 100), .int 0]))]) hS.1
      refine va_calli (va_runS (As := [.int p1, .int 0, .int 0]) (rest := []) ⟨hx, hb, hml, hown, ht⟩ (k_X15_isBetween_v8 l D g z0 _ a p1) (va_cwS 3 ht (gS w_369 w_371 w_334 w_370) rfl rfl rfl (by decide +kernel) (le2 rfl rfl)) ⟨PP.blind, PP.mk' hK hZ hz hAz hS hPc hDc⟩ rfl rfl hl.1 rfl (lv_room (Nat.le_of_ble_eq_true rfl)) dX15_pattern_26 (le2 rfl rfl)) hS (fun q _ h => hFc q h) hFc (fun r u t H locs ht1 hvm hw hB hz1 hk1 hS => ?_)
      rcases hw with hw | hw
      · obtain ⟨rfl, hw⟩ := hw
        rcases hw with hw | hw
        · have c_13 := hw
          have hP := ro1 hP hk1
          refine lv_if_eq (tgt := 44) hx hb dX15_pattern_29 (by decide) (fun c_14 => ?_) (fun c_14 => ?_)
          · refine lv_iconst (v := 0) hx hb dX15_pattern_44 (by decide) ?_
            refine lv_istore (lv' := [(4, .int 0), (3, .int 0), (0, .ref (a 200)), (1, .int p0), (2, .int p1)]) hx hb dX15_pattern_45 hl (by decide) rfl (fun ls hl => ?_)
            refine lv_aload_n hx hb dX15_pattern_47 rfl (lv_at hl 2 rfl) ?_
            refine lv_iload hx hb dX15_pattern_48 (lv_at hl 0 rfl) ?_
            refine lv_if_ne (tgt := 57) hx hb dX15_pattern_50 (by decide) (fun c_15 => ?_) (fun c_15 => ?_)
            · exact absurd c_15 (by decide)
            · refine lv_iconst (v := 1) hx hb dX15_pattern_53 (by decide) ?_
              refine lv_goto (tgt := 87) hx hb dX15_pattern_54 (by decide) ?_
              have hPc : va_P D vwCl [((a 200), f_m a g)] _ := hP.sub (ws' := [((a 200), f_m a g)]) [0] rfl
              have hDc : va_D (fun q => z0 ≤ q) [((a 200), f_m a g)] := (hD.to hAz).pick (ws' := [((a 200), f_m a g)]) [0] (by decide) rfl
              have hFc := va_free (wc := [((a 200), f_m a g)]) hD hS hA [0] rfl
              refine va_calli (va_runV (As := [.int 1]) (rest := []) ⟨hx, hb, hml, hown, ht⟩ (k_X15_isWrong l D g z0 _ a) (cwV 1 ht (gV w_376 w_378 w_379 w_334 w_377) rfl rfl rfl (by decide +kernel) (le2 rfl rfl)) ⟨PP.blind, va_recv hK.1 hP (ci := 21) (q0 := 0) rfl rfl, PP.mk' hK hZ hz hAz hS hPc hDc⟩ rfl rfl hl.1 rfl (lv_room (Nat.le_of_ble_eq_true rfl)) dX15_pattern_87 (le2 rfl rfl)) hS (fun q _ h => hFc q h) hFc (fun r u t H locs ht1 hvm hw hB hz1 hk1 hS => ?_)
              obtain ⟨rfl, hw⟩ := hw
              obtain ⟨hP1, hD1⟩ := hB
              rw [ht1] at hP1
              obtain ⟨hP, hD⟩ := va_join (wr := [((a 202), .inr (5, [.int 0, .ref (g 100), .int 0]))]) (w1 := [((a 200), .inr (21, [.int 1, .ref (a 201), .ref (a 202), .ref (a 203), .ref (a 204), .ref (a 205), .ref (a 206), .int 0, .int 0, .int 0, .int 0, .ref (a 208), .ref (a 209), .ref (a 210), .ref (a 211), .ref (a 212), .int 4, .int 12, .int (-1), .int 0, .ref (g 200), .ref (a 213), .int 0, .int 97, .ref (a 214), .ref (a 215), .ref (a 207), .null, .int 0]))]) hP hD [0] [1] rfl rfl (by decide) (by decide) hk1 hFc hP1 hD1
              have hP : va_P D vwCl [((a 202), .inr (5, [.int 0, .ref (g 100), .int 0])), ((a 200), .inr (21, [.int 1, .ref (a 201), .ref (a 202), .ref (a 203), .ref (a 204), .ref (a 205), .ref (a 206), .int 0, .int 0, .int 0, .int 0, .ref (a 208), .ref (a 209), .ref (a 210), .ref (a 211), .ref (a 212), .int 4, .int 12, .int (-1), .int 0, .ref (g 200), .ref (a 213), .int 0, .int 97, .ref (a 214), .ref (a 215), .ref (a 207), .null, .int 0]))] H := hP
              have hD : va_D (va_A [((a 200), f_m a g), ((a 202), .inr (5, [.int 0, .ref (g 100), .int 0]))] s.heap.size) [((a 202), .inr (5, [.int 0, .ref (g 100), .int 0])), ((a 200), .inr (21, [.int 1, .ref (a 201), .ref (a 202), .ref (a 203), .ref (a 204), .ref (a 205), .ref (a 206), .int 0, .int 0, .int 0, .int 0, .ref (a 208), .ref (a 209), .ref (a 210), .ref (a 211), .ref (a 212), .int 4, .int 12, .int (-1), .int 0, .ref (g 200), .ref (a 213), .int 0, .int 97, .ref (a 214), .ref (a 215), .ref (a 207), .null, .int 0]))] := hD
              refine lv_if_eq (tgt := 95) hx hb dX15_pattern_90 (by decide) (fun c_16 => ?_) (fun c_16 => ?_)
              · exact absurd c_16 (by decide)
              · refine lv_iconst (v := 0) hx hb dX15_pattern_93 (by decide) ?_
                have hP9 := hP.sub (ws' := [((a 200), .inr (21, [.int 1, .ref (a 201), .ref (a 202), .ref (a 203), .ref (a 204), .ref (a 205), .ref (a 206), .int 0, .int 0, .int 0, .int 0, .ref (a 208), .ref (a 209), .ref (a 210), .ref (a 211), .ref (a 212), .int 4, .int 12, .int (-1), .int 0, .ref (g 200), .ref (a 213), .int 0, .int 97, .ref (a 214), .ref (a 215), .ref (a 207), .null, .int 0]))]) [1] rfl
                have hD9 := hD.sub (ws' := [((a 200), .inr (21, [.int 1, .ref (a 201), .ref (a 202), .ref (a 203), .ref (a 204), .ref (a 205), .ref (a 206), .int 0, .int 0, .int 0, .int 0, .ref (a 208), .ref (a 209), .ref (a 210), .ref (a 211), .ref (a 212), .int 4, .int 12, .int (-1), .int 0, .ref (g 200), .ref (a 213), .int 0, .int 97, .ref (a 214), .ref (a 215), .ref (a 207), .null, .int 0]))]) [1] (by decide) rfl
                refine W.widen (k := 0) (n := 0) (Nat.le_of_ble_eq_true rfl) (Nat.le_of_ble_eq_true rfl) ?_
                exact W.iret (v := 0) hx hb hr (fun t ht9 hW9 => ⟨⟨0, 1, rfl, (Or.inl ⟨rfl, rfl, (Or.inr (Or.inr (Or.inl ⟨c_10, c_11, c_13⟩)))⟩), ⟨(by rw [ht9]; exact hP9), hD9⟩⟩, hS.F ht9⟩) hS.2.2 dX15_pattern_94 hlocks
          · exact absurd c_14 (by decide)
        · obtain ⟨c_17, c_18⟩ := hw
          have hP := ro1 hP hk1
          refine lv_if_eq (tgt := 44) hx hb dX15_pattern_29 (by decide) (fun c_19 => ?_) (fun c_19 => ?_)
          · refine lv_iconst (v := 0) hx hb dX15_pattern_44 (by decide) ?_
            refine lv_istore (lv' := [(4, .int 0), (3, .int 0), (0, .ref (a 200)), (1, .int p0), (2, .int p1)]) hx hb dX15_pattern_45 hl (by decide) rfl (fun ls hl => ?_)
            refine lv_aload_n hx hb dX15_pattern_47 rfl (lv_at hl 2 rfl) ?_
            refine lv_iload hx hb dX15_pattern_48 (lv_at hl 0 rfl) ?_
            refine lv_if_ne (tgt := 57) hx hb dX15_pattern_50 (by decide) (fun c_20 => ?_) (fun c_20 => ?_)
            · exact absurd c_20 (by decide)
            · refine lv_iconst (v := 1) hx hb dX15_pattern_53 (by decide) ?_
              refine lv_goto (tgt := 87) hx hb dX15_pattern_54 (by decide) ?_
              have hPc : va_P D vwCl [((a 200), f_m a g)] _ := hP.sub (ws' := [((a 200), f_m a g)]) [0] rfl
              have hDc : va_D (fun q => z0 ≤ q) [((a 200), f_m a g)] := (hD.to hAz).pick (ws' := [((a 200), f_m a g)]) [0] (by decide) rfl
              have hFc := va_free (wc := [((a 200), f_m a g)]) hD hS hA [0] rfl
              refine va_calli (va_runV (As := [.int 1]) (rest := []) ⟨hx, hb, hml, hown, ht⟩ (k_X15_isWrong l D g z0 _ a) (cwV 1 ht (gV w_376 w_378 w_379 w_334 w_377) rfl rfl rfl (by decide +kernel) (le2 rfl rfl)) ⟨PP.blind, va_recv hK.1 hP (ci := 21) (q0 := 0) rfl rfl, PP.mk' hK hZ hz hAz hS hPc hDc⟩ rfl rfl hl.1 rfl (lv_room (Nat.le_of_ble_eq_true rfl)) dX15_pattern_87 (le2 rfl rfl)) hS (fun q _ h => hFc q h) hFc (fun r u t H locs ht1 hvm hw hB hz1 hk1 hS => ?_)
              obtain ⟨rfl, hw⟩ := hw
              obtain ⟨hP1, hD1⟩ := hB
              rw [ht1] at hP1
              obtain ⟨hP, hD⟩ := va_join (wr := [((a 202), .inr (5, [.int 0, .ref (g 100), .int 0]))]) (w1 := [((a 200), .inr (21, [.int 1, .ref (a 201), .ref (a 202), .ref (a 203), .ref (a 204), .ref (a 205), .ref (a 206), .int 0, .int 0, .int 0, .int 0, .ref (a 208), .ref (a 209), .ref (a 210), .ref (a 211), .ref (a 212), .int 4, .int 12, .int (-1), .int 0, .ref (g 200), .ref (a 213), .int 0, .int 97, .ref (a 214), .ref (a 215), .ref (a 207), .null, .int 0]))]) hP hD [0] [1] rfl rfl (by decide) (by decide) hk1 hFc hP1 hD1
              have hP : va_P D vwCl [((a 202), .inr (5, [.int 0, .ref (g 100), .int 0])), ((a 200), .inr (21, [.int 1, .ref (a 201), .ref (a 202), .ref (a 203), .ref (a 204), .ref (a 205), .ref (a 206), .int 0, .int 0, .int 0, .int 0, .ref (a 208), .ref (a 209), .ref (a 210), .ref (a 211), .ref (a 212), .int 4, .int 12, .int (-1), .int 0, .ref (g 200), .ref (a 213), .int 0, .int 97, .ref (a 214), .ref (a 215), .ref (a 207), .null, .int 0]))] H := hP
              have hD : va_D (va_A [((a 200), f_m a g), ((a 202), .inr (5, [.int 0, .ref (g 100), .int 0]))] s.heap.size) [((a 202), .inr (5, [.int 0, .ref (g 100), .int 0])), ((a 200), .inr (21, [.int 1, .ref (a 201), .ref (a 202), .ref (a 203), .ref (a 204), .ref (a 205), .ref (a 206), .int 0, .int 0, .int 0, .int 0, .ref (a 208), .ref (a 209), .ref (a 210), .ref (a 211), .ref (a 212), .int 4, .int 12, .int (-1), .int 0, .ref (g 200), .ref (a 213), .int 0, .int 97, .ref (a 214), .ref (a 215), .ref (a 207), .null, .int 0]))] := hD
              refine lv_if_eq (tgt := 95) hx hb dX15_pattern_90 (by decide) (fun c_21 => ?_) (fun c_21 => ?_)
              · exact absurd c_21 (by decide)
              · refine lv_iconst (v := 0) hx hb dX15_pattern_93 (by decide) ?_
                have hP9 := hP.sub (ws' := [((a 200), .inr (21, [.int 1, .ref (a 201), .ref (a 202), .ref (a 203), .ref (a 204), .ref (a 205), .ref (a 206), .int 0, .int 0, .int 0, .int 0, .ref (a 208), .ref (a 209), .ref (a 210), .ref (a 211), .ref (a 212), .int 4, .int 12, .int (-1), .int 0, .ref (g 200), .ref (a 213), .int 0, .int 97, .ref (a 214), .ref (a 215), .ref (a 207), .null, .int 0]))]) [1] rfl
                have hD9 := hD.sub (ws' := [((a 200), .inr (21, [.int 1, .ref (a 201), .ref (a 202), .ref (a 203), .ref (a 204), .ref (a 205), .ref (a 206), .int 0, .int 0, .int 0, .int 0, .ref (a 208), .ref (a 209), .ref (a 210), .ref (a 211), .ref (a 212), .int 4, .int 12, .int (-1), .int 0, .ref (g 200), .ref (a 213), .int 0, .int 97, .ref (a 214), .ref (a 215), .ref (a 207), .null, .int 0]))]) [1] (by decide) rfl
                refine W.widen (k := 0) (n := 0) (Nat.le_of_ble_eq_true rfl) (Nat.le_of_ble_eq_true rfl) ?_
                exact W.iret (v := 0) hx hb hr (fun t ht9 hW9 => ⟨⟨0, 1, rfl, (Or.inl ⟨rfl, rfl, (Or.inr (Or.inr (Or.inr (Or.inl ⟨c_10, c_11, c_17, c_18⟩))))⟩), ⟨(by rw [ht9]; exact hP9), hD9⟩⟩, hS.F ht9⟩) hS.2.2 dX15_pattern_94 hlocks
          · exact absurd c_19 (by decide)
      · obtain ⟨rfl, hw⟩ := hw
        obtain ⟨c_22, c_23⟩ := hw
        have hP := ro1 hP hk1
        refine lv_if_eq (tgt := 44) hx hb dX15_pattern_29 (by decide) (fun c_24 => ?_) (fun c_24 => ?_)
        · exact absurd c_24 (by decide)
        · refine lv_iload_n hx hb dX15_pattern_32 rfl (lv_at hl 3 rfl) ?_
          refine lv_iload_n hx hb dX15_pattern_33 rfl (lv_at hl 2 rfl) ?_
          refine lv_iconst (v := (-1)) hx hb dX15_pattern_34 (by decide) ?_
          refine lv_ixor hx hb dX15_pattern_35 ?_
          refine lv_iand hx hb dX15_pattern_36 ?_
          refine lv_if_ne (tgt := 44) hx hb dX15_pattern_37 (by decide) (fun c_25 => ?_) (fun c_25 => ?_)
          · refine lv_iconst (v := 0) hx hb dX15_pattern_44 (by decide) ?_
            refine lv_istore (lv' := [(4, .int 0), (3, .int 0), (0, .ref (a 200)), (1, .int p0), (2, .int p1)]) hx hb dX15_pattern_45 hl (by decide) rfl (fun ls hl => ?_)
            refine lv_aload_n hx hb dX15_pattern_47 rfl (lv_at hl 2 rfl) ?_
            refine lv_iload hx hb dX15_pattern_48 (lv_at hl 0 rfl) ?_
            refine lv_if_ne (tgt := 57) hx hb dX15_pattern_50 (by decide) (fun c_26 => ?_) (fun c_26 => ?_)
            · exact absurd c_26 (by decide)
            · refine lv_iconst (v := 1) hx hb dX15_pattern_53 (by decide) ?_
              refine lv_goto (tgt := 87) hx hb dX15_pattern_54 (by decide) ?_
              have hPc : va_P D vwCl [((a 200), f_m a g)] _ := hP.sub (ws' := [((a 200), f_m a g)]) [0] rfl
              have hDc : va_D (fun q => z0 ≤ q) [((a 200), f_m a g)] := (hD.to hAz).pick (ws' := [((a 200), f_m a g)]) [0] (by decide) rfl
              have hFc := va_free (wc := [((a 200), f_m a g)]) hD hS hA [0] rfl
              refine va_calli (va_runV (As := [.int 1]) (rest := []) ⟨hx, hb, hml, hown, ht⟩ (k_X15_isWrong l D g z0 _ a) (cwV 1 ht (gV w_376 w_378 w_379 w_334 w_377) rfl rfl rfl (by decide +kernel) (le2 rfl rfl)) ⟨PP.blind, va_recv hK.1 hP (ci := 21) (q0 := 0) rfl rfl, PP.mk' hK hZ hz hAz hS hPc hDc⟩ rfl rfl hl.1 rfl (lv_room (Nat.le_of_ble_eq_true rfl)) dX15_pattern_87 (le2 rfl rfl)) hS (fun q _ h => hFc q h) hFc (fun r u t H locs ht1 hvm hw hB hz1 hk1 hS => ?_)
              obtain ⟨rfl, hw⟩ := hw
              obtain ⟨hP1, hD1⟩ := hB
              rw [ht1] at hP1
              obtain ⟨hP, hD⟩ := va_join (wr := [((a 202), .inr (5, [.int 0, .ref (g 100), .int 0]))]) (w1 := [((a 200), .inr (21, [.int 1, .ref (a 201), .ref (a 202), .ref (a 203), .ref (a 204), .ref (a 205), .ref (a 206), .int 0, .int 0, .int 0, .int 0, .ref (a 208), .ref (a 209), .ref (a 210), .ref (a 211), .ref (a 212), .int 4, .int 12, .int (-1), .int 0, .ref (g 200), .ref (a 213), .int 0, .int 97, .ref (a 214), .ref (a 215), .ref (a 207), .null, .int 0]))]) hP hD [0] [1] rfl rfl (by decide) (by decide) hk1 hFc hP1 hD1
              have hP : va_P D vwCl [((a 202), .inr (5, [.int 0, .ref (g 100), .int 0])), ((a 200), .inr (21, [.int 1, .ref (a 201), .ref (a 202), .ref (a 203), .ref (a 204), .ref (a 205), .ref (a 206), .int 0, .int 0, .int 0, .int 0, .ref (a 208), .ref (a 209), .ref (a 210), .ref (a 211), .ref (a 212), .int 4, .int 12, .int (-1), .int 0, .ref (g 200), .ref (a 213), .int 0, .int 97, .ref (a 214), .ref (a 215), .ref (a 207), .null, .int 0]))] H := hP
              have hD : va_D (va_A [((a 200), f_m a g), ((a 202), .inr (5, [.int 0, .ref (g 100), .int 0]))] s.heap.size) [((a 202), .inr (5, [.int 0, .ref (g 100), .int 0])), ((a 200), .inr (21, [.int 1, .ref (a 201), .ref (a 202), .ref (a 203), .ref (a 204), .ref (a 205), .ref (a 206), .int 0, .int 0, .int 0, .int 0, .ref (a 208), .ref (a 209), .ref (a 210), .ref (a 211), .ref (a 212), .int 4, .int 12, .int (-1), .int 0, .ref (g 200), .ref (a 213), .int 0, .int 97, .ref (a 214), .ref (a 215), .ref (a 207), .null, .int 0]))] := hD
              refine lv_if_eq (tgt := 95) hx hb dX15_pattern_90 (by decide) (fun c_27 => ?_) (fun c_27 => ?_)
              · exact absurd c_27 (by decide)
              · refine lv_iconst (v := 0) hx hb dX15_pattern_93 (by decide) ?_
                have hP9 := hP.sub (ws' := [((a 200), .inr (21, [.int 1, .ref (a 201), .ref (a 202), .ref (a 203), .ref (a 204), .ref (a 205), .ref (a 206), .int 0, .int 0, .int 0, .int 0, .ref (a 208), .ref (a 209), .ref (a 210), .ref (a 211), .ref (a 212), .int 4, .int 12, .int (-1), .int 0, .ref (g 200), .ref (a 213), .int 0, .int 97, .ref (a 214), .ref (a 215), .ref (a 207), .null, .int 0]))]) [1] rfl
                have hD9 := hD.sub (ws' := [((a 200), .inr (21, [.int 1, .ref (a 201), .ref (a 202), .ref (a 203), .ref (a 204), .ref (a 205), .ref (a 206), .int 0, .int 0, .int 0, .int 0, .ref (a 208), .ref (a 209), .ref (a 210), .ref (a 211), .ref (a 212), .int 4, .int 12, .int (-1), .int 0, .ref (g 200), .ref (a 213), .int 0, .int 97, .ref (a 214), .ref (a 215), .ref (a 207), .null, .int 0]))]) [1] (by decide) rfl
                refine W.widen (k := 0) (n := 0) (Nat.le_of_ble_eq_true rfl) (Nat.le_of_ble_eq_true rfl) ?_
                exact W.iret (v := 0) hx hb hr (fun t ht9 hW9 => ⟨⟨0, 1, rfl, (Or.inl ⟨rfl, rfl, (Or.inr (Or.inr (Or.inr (Or.inr ⟨c_10, c_11, c_22, c_23, c_25⟩))))⟩), ⟨(by rw [ht9]; exact hP9), hD9⟩⟩, hS.F ht9⟩) hS.2.2 dX15_pattern_94 hlocks
          · refine lv_iconst (v := 1) hx hb dX15_pattern_40 (by decide) ?_
            refine lv_goto (tgt := 45) hx hb dX15_pattern_41 (by decide) ?_
            refine lv_istore (lv' := [(4, .int 1), (3, .int 0), (0, .ref (a 200)), (1, .int p0), (2, .int p1)]) hx hb dX15_pattern_45 hl (by decide) rfl (fun ls hl => ?_)
            refine lv_aload_n hx hb dX15_pattern_47 rfl (lv_at hl 2 rfl) ?_
            refine lv_iload hx hb dX15_pattern_48 (lv_at hl 0 rfl) ?_
            refine lv_if_ne (tgt := 57) hx hb dX15_pattern_50 (by decide) (fun c_28 => ?_) (fun c_28 => ?_)
            · refine lv_aload_n hx hb dX15_pattern_57 rfl (lv_at hl 2 rfl) ?_
              refine va_get (D := D) (ci := 21) (v := .int 0) (C := RX15) (T := TX15) (N := 29) hx hb ht in_X15 hown hK.1 hP 0 rfl rfl 7 (by decide) (ht _ w_383) (fun _ h9 => h9) rfl dX15_pattern_58 ?_
              refine lv_if_ne (tgt := 68) hx hb dX15_pattern_61 (by decide) (fun c_29 => ?_) (fun c_29 => ?_)
              · exact absurd c_29 (by decide)
              · refine lv_iconst (v := 2) hx hb dX15_pattern_64 (by decide) ?_
                refine lv_goto (tgt := 87) hx hb dX15_pattern_65 (by decide) ?_
                have hPc : va_P D vwCl [((a 200), f_m a g)] _ := hP.sub (ws' := [((a 200), f_m a g)]) [0] rfl
                have hDc : va_D (fun q => z0 ≤ q) [((a 200), f_m a g)] := (hD.to hAz).pick (ws' := [((a 200), f_m a g)]) [0] (by decide) rfl
                have hFc := va_free (wc := [((a 200), f_m a g)]) hD hS hA [0] rfl
                refine va_calli (va_runV (As := [.int 2]) (rest := []) ⟨hx, hb, hml, hown, ht⟩ (k_X15_isWrong_v2 l D g z0 _ a) (cwV 1 ht (gV w_376 w_378 w_379 w_334 w_377) rfl rfl rfl (by decide +kernel) (le2 rfl rfl)) ⟨PP.blind, va_recv hK.1 hP (ci := 21) (q0 := 0) rfl rfl, PP.mk' hK hZ hz hAz hS hPc hDc⟩ rfl rfl hl.1 rfl (lv_room (Nat.le_of_ble_eq_true rfl)) dX15_pattern_87 (le2 rfl rfl)) hS (fun q _ h => hFc q h) hFc (fun r u t H locs ht1 hvm hw hB hz1 hk1 hS => ?_)
                obtain ⟨rfl, hw⟩ := hw
                obtain ⟨hP1, hD1⟩ := hB
                rw [ht1] at hP1
                obtain ⟨hP, hD⟩ := va_join (wr := [((a 202), .inr (5, [.int 0, .ref (g 100), .int 0]))]) (w1 := [((a 200), .inr (21, [.int 2, .ref (a 201), .ref (a 202), .ref (a 203), .ref (a 204), .ref (a 205), .ref (a 206), .int 0, .int 0, .int 0, .int 0, .ref (a 208), .ref (a 209), .ref (a 210), .ref (a 211), .ref (a 212), .int 4, .int 12, .int (-1), .int 0, .ref (g 200), .ref (a 213), .int 0, .int 97, .ref (a 214), .ref (a 215), .ref (a 207), .null, .int 0]))]) hP hD [0] [1] rfl rfl (by decide) (by decide) hk1 hFc hP1 hD1
                have hP : va_P D vwCl [((a 202), .inr (5, [.int 0, .ref (g 100), .int 0])), ((a 200), .inr (21, [.int 2, .ref (a 201), .ref (a 202), .ref (a 203), .ref (a 204), .ref (a 205), .ref (a 206), .int 0, .int 0, .int 0, .int 0, .ref (a 208), .ref (a 209), .ref (a 210), .ref (a 211), .ref (a 212), .int 4, .int 12, .int (-1), .int 0, .ref (g 200), .ref (a 213), .int 0, .int 97, .ref (a 214), .ref (a 215), .ref (a 207), .null, .int 0]))] H := hP
                have hD : va_D (va_A [((a 200), f_m a g), ((a 202), .inr (5, [.int 0, .ref (g 100), .int 0]))] s.heap.size) [((a 202), .inr (5, [.int 0, .ref (g 100), .int 0])), ((a 200), .inr (21, [.int 2, .ref (a 201), .ref (a 202), .ref (a 203), .ref (a 204), .ref (a 205), .ref (a 206), .int 0, .int 0, .int 0, .int 0, .ref (a 208), .ref (a 209), .ref (a 210), .ref (a 211), .ref (a 212), .int 4, .int 12, .int (-1), .int 0, .ref (g 200), .ref (a 213), .int 0, .int 97, .ref (a 214), .ref (a 215), .ref (a 207), .null, .int 0]))] := hD
                refine lv_if_eq (tgt := 95) hx hb dX15_pattern_90 (by decide) (fun c_30 => ?_) (fun c_30 => ?_)
                · exact absurd c_30 (by decide)
                · refine lv_iconst (v := 0) hx hb dX15_pattern_93 (by decide) ?_
                  have hP9 := hP.sub (ws' := [((a 200), .inr (21, [.int 2, .ref (a 201), .ref (a 202), .ref (a 203), .ref (a 204), .ref (a 205), .ref (a 206), .int 0, .int 0, .int 0, .int 0, .ref (a 208), .ref (a 209), .ref (a 210), .ref (a 211), .ref (a 212), .int 4, .int 12, .int (-1), .int 0, .ref (g 200), .ref (a 213), .int 0, .int 97, .ref (a 214), .ref (a 215), .ref (a 207), .null, .int 0]))]) [1] rfl
                  have hD9 := hD.sub (ws' := [((a 200), .inr (21, [.int 2, .ref (a 201), .ref (a 202), .ref (a 203), .ref (a 204), .ref (a 205), .ref (a 206), .int 0, .int 0, .int 0, .int 0, .ref (a 208), .ref (a 209), .ref (a 210), .ref (a 211), .ref (a 212), .int 4, .int 12, .int (-1), .int 0, .ref (g 200), .ref (a 213), .int 0, .int 97, .ref (a 214), .ref (a 215), .ref (a 207), .null, .int 0]))]) [1] (by decide) rfl
                  refine W.widen (k := 0) (n := 0) (Nat.le_of_ble_eq_true rfl) (Nat.le_of_ble_eq_true rfl) ?_
                  exact W.iret (v := 0) hx hb hr (fun t ht9 hW9 => ⟨⟨0, 2, rfl, (Or.inr ⟨rfl, rfl, ⟨c_10, c_11, c_22, c_23, c_25⟩⟩), ⟨(by rw [ht9]; exact hP9), hD9⟩⟩, hS.F ht9⟩) hS.2.2 dX15_pattern_94 hlocks
            · exact absurd c_28 (by decide)
set_option maxHeartbeats 4000000 in
set_option maxRecDepth 100000 in
theorem k_X15_patterns (l : Launch) (D : va_G) (g : Nat → ClassId) (z0 sz : Nat) (a : Nat → Nat) : Met l yX15_patterns (.code yX15_patterns cX15_patterns 1 (some .int) :: TG) (rmk 1 0 0 20) (va_Pc [.ref (a 200)] (PP D g z0 sz [((a 200), f_m a g), ((a 206), .inr (5, [.int 0, .ref (g 100), .int 0]))])) (va_Qi (fun (r : Int32) (u : Unit) => (r = 0) ∧ True) (fun (u : Unit) (t : State) => va_P D vwCl [((a 200), .inr (21, [.int 0, .ref (a 201), .ref (a 202), .ref (a 203), .ref (a 204), .ref (a 205), .ref (a 206), .int 0, .int 0, .int 0, .int 0, .ref (a 208), .ref (a 209), .ref (a 210), .ref (a 211), .ref (a 212), .int 4, .int 12, .int (-1), .int 0, .ref (g 200), .ref (a 213), .int 0, .int 97, .ref (a 214), .ref (a 215), .ref (a 207), .null, .int 0]))] t.heap ∧ va_D (va_A [((a 200), f_m a g), ((a 206), .inr (5, [.int 0, .ref (g 100), .int 0]))] sz) [((a 200), .inr (21, [.int 0, .ref (a 201), .ref (a 202), .ref (a 203), .ref (a 204), .ref (a 205), .ref (a 206), .int 0, .int 0, .int 0, .int 0, .ref (a 208), .ref (a 209), .ref (a 210), .ref (a 211), .ref (a 212), .int 4, .int 12, .int (-1), .int 0, .ref (g 200), .ref (a 213), .int 0, .int 97, .ref (a 214), .ref (a 215), .ref (a 207), .null, .int 0]))]) (va_A [((a 200), f_m a g), ((a 206), .inr (5, [.int 0, .ref (g 100), .int 0]))] sz)) 0 0 (va_A [((a 200), f_m a g), ((a 206), .inr (5, [.int 0, .ref (g 100), .int 0]))] sz) := by
  refine met0 (cc := cX15_patterns) (n := 1) (by decide) (Nat.le_of_ble_eq_true rfl) ?_
  intro p e s m args below meth c hx hb hr hml hown ht hlocks hnm hP0 hD0 hK hZ hsz hz ls hl
  subst hsz
  have hA : ∀ q : Nat, s.heap.size ≤ q → va_A [((a 200), f_m a g), ((a 206), .inr (5, [.int 0, .ref (g 100), .int 0]))] s.heap.size q := Anw
  have hAz : ∀ q, va_A [((a 200), f_m a g), ((a 206), .inr (5, [.int 0, .ref (g 100), .int 0]))] s.heap.size q → z0 ≤ q := Awz hz hD0
  have hS : va_S (va_A [((a 200), f_m a g), ((a 206), .inr (5, [.int 0, .ref (g 100), .int 0]))] s.heap.size) s.heap s.heap [] := va_S.rf
  have hD : va_D (va_A [((a 200), f_m a g), ((a 206), .inr (5, [.int 0, .ref (g 100), .int 0]))] s.heap.size) [((a 200), f_m a g), ((a 206), .inr (5, [.int 0, .ref (g 100), .int 0]))] := hD0.self
  have hP : va_P D vwCl [((a 200), f_m a g), ((a 206), .inr (5, [.int 0, .ref (g 100), .int 0]))] s.heap := hP0
  have hl : lv_has ls 1 [(0, .ref (a 200))] := hl
  refine lv_aload_n hx hb dX15_patterns_0 rfl (lv_at hl 0 rfl) ?_
  refine lv_iconst (v := 0) hx hb dX15_patterns_1 (by decide) ?_
  refine va_put (D := D) (ci := 21) (v := .int 0) (ty := .int) (C := RX15) (T := TX15) (N := 29) hx hb ht in_X15 tyX15 tyX15_ok nmX15 hown hK.1 hP hD hS 0 rfl rfl 0 (by decide) (ht _ w_303) (fun _ h9 => h9) rfl (by decide +kernel) rfl rfl (Nat.le_of_ble_eq_true rfl) dX15_patterns_2 (fun H locs hP hD hS => ?_)
  have hP : va_P D vwCl [((a 200), .inr (21, [.int 0, .ref (a 201), .ref (a 202), .ref (a 203), .ref (a 204), .ref (a 205), .ref (a 206), .int 0, .int 0, .int 0, .int 0, .ref (a 208), .ref (a 209), .ref (a 210), .ref (a 211), .ref (a 212), .int 4, .int 12, .int (-1), .int 0, .ref (g 200), .ref (a 213), .int 0, .int 97, .ref (a 214), .ref (a 215), .ref (a 207), .null, .int 0])), ((a 206), .inr (5, [.int 0, .ref (g 100), .int 0]))] H := hP
  have hD : va_D (va_A [((a 200), f_m a g), ((a 206), .inr (5, [.int 0, .ref (g 100), .int 0]))] s.heap.size) [((a 200), .inr (21, [.int 0, .ref (a 201), .ref (a 202), .ref (a 203), .ref (a 204), .ref (a 205), .ref (a 206), .int 0, .int 0, .int 0, .int 0, .ref (a 208), .ref (a 209), .ref (a 210), .ref (a 211), .ref (a 212), .int 4, .int 12, .int (-1), .int 0, .ref (g 200), .ref (a 213), .int 0, .int 97, .ref (a 214), .ref (a 215), .ref (a 207), .null, .int 0])), ((a 206), .inr (5, [.int 0, .ref (g 100), .int 0]))] := hD
  refine lv_aload_n hx hb dX15_patterns_5 rfl (lv_at hl 0 rfl) ?_
  refine va_get (D := D) (ci := 21) (v := .ref (a 206)) (C := RX15) (T := TX15) (N := 29) hx hb ht in_X15 hown hK.1 hP 0 rfl rfl 6 (by decide) (ht _ w_304) (fun _ h9 => h9) rfl dX15_patterns_6 ?_
  have hPc : va_P D vwCl [((a 206), .inr (5, [.int 0, .ref (g 100), .int 0]))] _ := hP.sub (ws' := [((a 206), .inr (5, [.int 0, .ref (g 100), .int 0]))]) [1] rfl
  have hDc : va_D (fun q => z0 ≤ q) [((a 206), .inr (5, [.int 0, .ref (g 100), .int 0]))] := (hD.to hAz).pick (ws' := [((a 206), .inr (5, [.int 0, .ref (g 100), .int 0]))]) [1] (by decide) rfl
  have hFc := AnA (ws := [((a 200), f_m a g), ((a 206), .inr (5, [.int 0, .ref (g 100), .int 0]))]) hS.1
  refine va_callFi (va_runF (As := []) (rest := []) (hK.1.1 5 _ rfl).2 ⟨hx, hb, hml, hown, ht⟩ (k_Jx4a65c_size_8abf5 l D g z0 _ a (a 206)) (va_cwF 0 ht (gF w_356 w_358 w_359 w_323 w_357) rfl rfl rfl (hK.2.2.2.1 _ (List.mem_of_getElem? (i := 0) rfl)) (by decide +kernel) (le2 rfl rfl)) ⟨PP.blind, va_recv hK.1 hP (ci := 5) (q0 := 1) rfl rfl, PP.mk' hK hZ hz hAz hS hPc hDc⟩ rfl rfl hl.1 rfl (lv_room (Nat.le_of_ble_eq_true rfl)) dX15_patterns_9 (le2 rfl rfl)) hS (fun q _ h => hFc q h) hFc (fun r u t H locs ht1 hvm hw hB hz1 hk1 hS => ?_)
  obtain ⟨rfl, hw⟩ := hw
  have hP := ro1 hP hk1
  have hP9 := hP.sub (ws' := [((a 200), .inr (21, [.int 0, .ref (a 201), .ref (a 202), .ref (a 203), .ref (a 204), .ref (a 205), .ref (a 206), .int 0, .int 0, .int 0, .int 0, .ref (a 208), .ref (a 209), .ref (a 210), .ref (a 211), .ref (a 212), .int 4, .int 12, .int (-1), .int 0, .ref (g 200), .ref (a 213), .int 0, .int 97, .ref (a 214), .ref (a 215), .ref (a 207), .null, .int 0]))]) [0] rfl
  have hD9 := hD.sub (ws' := [((a 200), .inr (21, [.int 0, .ref (a 201), .ref (a 202), .ref (a 203), .ref (a 204), .ref (a 205), .ref (a 206), .int 0, .int 0, .int 0, .int 0, .ref (a 208), .ref (a 209), .ref (a 210), .ref (a 211), .ref (a 212), .int 4, .int 12, .int (-1), .int 0, .ref (g 200), .ref (a 213), .int 0, .int 97, .ref (a 214), .ref (a 215), .ref (a 207), .null, .int 0]))]) [0] (by decide) rfl
  refine W.widen (k := 0) (n := 0) (Nat.le_of_ble_eq_true rfl) (Nat.le_of_ble_eq_true rfl) ?_
  exact W.iret (v := 0) hx hb hr (fun t ht9 hW9 => ⟨⟨0, (), rfl, ⟨rfl, trivial⟩, ⟨(by rw [ht9]; exact hP9), hD9⟩⟩, hS.F ht9⟩) hS.2.2 dX15_patterns_14 hlocks
set_option maxHeartbeats 4000000 in
set_option maxRecDepth 100000 in
theorem k_X15_pinOf (l : Launch) (D : va_G) (g : Nat → ClassId) (z0 sz : Nat) (a : Nat → Nat) (p0 : Int32) : Met l yX15_pinOf (.code yX15_pinOf cX15_pinOf 2 (some .int) :: TG) (rmk 2 0 0 43) (va_Pc [.ref (a 200), .int p0] (PP D g z0 sz [((a 200), f_m a g), ((a 204), .inr (5, [.int 0, .ref (g 100), .int 0]))])) (va_Qi (fun (r : Int32) (u : Unit) => (r = 0) ∧ True) (fun (u : Unit) (t : State) => va_P D vwCl [((a 200), .inr (21, [.int 1, .ref (a 201), .ref (a 202), .ref (a 203), .ref (a 204), .ref (a 205), .ref (a 206), .int 0, .int 0, .int 0, .int 0, .ref (a 208), .ref (a 209), .ref (a 210), .ref (a 211), .ref (a 212), .int 4, .int 12, .int (-1), .int 0, .ref (g 200), .ref (a 213), .int 0, .int 97, .ref (a 214), .ref (a 215), .ref (a 207), .null, .int 0]))] t.heap ∧ va_D (va_A [((a 200), f_m a g), ((a 204), .inr (5, [.int 0, .ref (g 100), .int 0]))] sz) [((a 200), .inr (21, [.int 1, .ref (a 201), .ref (a 202), .ref (a 203), .ref (a 204), .ref (a 205), .ref (a 206), .int 0, .int 0, .int 0, .int 0, .ref (a 208), .ref (a 209), .ref (a 210), .ref (a 211), .ref (a 212), .int 4, .int 12, .int (-1), .int 0, .ref (g 200), .ref (a 213), .int 0, .int 97, .ref (a 214), .ref (a 215), .ref (a 207), .null, .int 0]))]) (va_A [((a 200), f_m a g), ((a 204), .inr (5, [.int 0, .ref (g 100), .int 0]))] sz)) 0 0 (va_A [((a 200), f_m a g), ((a 204), .inr (5, [.int 0, .ref (g 100), .int 0]))] sz) := by
  refine met0 (cc := cX15_pinOf) (n := 2) (by decide) (Nat.le_of_ble_eq_true rfl) ?_
  intro p e s m args below meth c hx hb hr hml hown ht hlocks hnm hP0 hD0 hK hZ hsz hz ls hl
  subst hsz
  have hA : ∀ q : Nat, s.heap.size ≤ q → va_A [((a 200), f_m a g), ((a 204), .inr (5, [.int 0, .ref (g 100), .int 0]))] s.heap.size q := Anw
  have hAz : ∀ q, va_A [((a 200), f_m a g), ((a 204), .inr (5, [.int 0, .ref (g 100), .int 0]))] s.heap.size q → z0 ≤ q := Awz hz hD0
  have hS : va_S (va_A [((a 200), f_m a g), ((a 204), .inr (5, [.int 0, .ref (g 100), .int 0]))] s.heap.size) s.heap s.heap [] := va_S.rf
  have hD : va_D (va_A [((a 200), f_m a g), ((a 204), .inr (5, [.int 0, .ref (g 100), .int 0]))] s.heap.size) [((a 200), f_m a g), ((a 204), .inr (5, [.int 0, .ref (g 100), .int 0]))] := hD0.self
  have hP : va_P D vwCl [((a 200), f_m a g), ((a 204), .inr (5, [.int 0, .ref (g 100), .int 0]))] s.heap := hP0
  have hl : lv_has ls 2 [(0, .ref (a 200)), (1, .int p0)] := hl
  refine lv_aload_n hx hb dX15_pinOf_0 rfl (lv_at hl 0 rfl) ?_
  refine lv_aload_n hx hb dX15_pinOf_1 rfl (lv_at hl 0 rfl) ?_
  refine lv_iload_n hx hb dX15_pinOf_2 rfl (lv_at hl 1 rfl) ?_
  have hPc : va_P D vwCl [((a 200), f_m a g), ((a 204), .inr (5, [.int 0, .ref (g 100), .int 0]))] _ := hP.sub (ws' := [((a 200), f_m a g), ((a 204), .inr (5, [.int 0, .ref (g 100), .int 0]))]) [0, 1] rfl
  have hDc : va_D (fun q => z0 ≤ q) [((a 200), f_m a g), ((a 204), .inr (5, [.int 0, .ref (g 100), .int 0]))] := (hD.to hAz).pick (ws' := [((a 200), f_m a g), ((a 204), .inr (5, [.int 0, .ref (g 100), .int 0]))]) [0, 1] (by decide) rfl
  have hFc := AnA (ws := [((a 200), f_m a g), ((a 204), .inr (5, [.int 0, .ref (g 100), .int 0]))]) hS.1
  refine va_calli (va_runV (As := [.int p0]) (rest := [.ref (a 200)]) ⟨hx, hb, hml, hown, ht⟩ (k_X15_isFault l D g z0 _ a p0) (cwV 1 ht (gV w_372 w_374 w_375 w_334 w_373) rfl rfl rfl (by decide +kernel) (le2 rfl rfl)) ⟨PP.blind, va_recv hK.1 hP (ci := 21) (q0 := 0) rfl rfl, PP.mk' hK hZ hz hAz hS hPc hDc⟩ rfl rfl hl.1 rfl (lv_room (Nat.le_of_ble_eq_true rfl)) dX15_pinOf_3 (le2 rfl rfl)) hS (fun q _ h => hFc q h) hFc (fun r u t H locs ht1 hvm hw hB hz1 hk1 hS => ?_)
  obtain ⟨rfl, hw⟩ := hw
  have hP := ro1 hP hk1
  refine lv_if_eq (tgt := 13) hx hb dX15_pinOf_6 (by decide) (fun c_1 => ?_) (fun c_1 => ?_)
  · refine lv_iconst (v := 1) hx hb dX15_pinOf_13 (by decide) ?_
    have hPc : va_P D vwCl [((a 200), f_m a g)] _ := hP.sub (ws' := [((a 200), f_m a g)]) [0] rfl
    have hDc : va_D (fun q => z0 ≤ q) [((a 200), f_m a g)] := (hD.to hAz).pick (ws' := [((a 200), f_m a g)]) [0] (by decide) rfl
    have hFc := va_free (wc := [((a 200), f_m a g)]) hD hS hA [0] rfl
    refine va_calli (va_runV (As := [.int 1]) (rest := []) ⟨hx, hb, hml, hown, ht⟩ (k_X15_isWrong l D g z0 _ a) (cwV 1 ht (gV w_376 w_378 w_379 w_334 w_377) rfl rfl rfl (by decide +kernel) (le2 rfl rfl)) ⟨PP.blind, va_recv hK.1 hP (ci := 21) (q0 := 0) rfl rfl, PP.mk' hK hZ hz hAz hS hPc hDc⟩ rfl rfl hl.1 rfl (lv_room (Nat.le_of_ble_eq_true rfl)) dX15_pinOf_14 (le2 rfl rfl)) hS (fun q _ h => hFc q h) hFc (fun r u t H locs ht1 hvm hw hB hz1 hk1 hS => ?_)
    obtain ⟨rfl, hw⟩ := hw
    obtain ⟨hP1, hD1⟩ := hB
    rw [ht1] at hP1
    obtain ⟨hP, hD⟩ := va_join (wr := [((a 204), .inr (5, [.int 0, .ref (g 100), .int 0]))]) (w1 := [((a 200), .inr (21, [.int 1, .ref (a 201), .ref (a 202), .ref (a 203), .ref (a 204), .ref (a 205), .ref (a 206), .int 0, .int 0, .int 0, .int 0, .ref (a 208), .ref (a 209), .ref (a 210), .ref (a 211), .ref (a 212), .int 4, .int 12, .int (-1), .int 0, .ref (g 200), .ref (a 213), .int 0, .int 97, .ref (a 214), .ref (a 215), .ref (a 207), .null, .int 0]))]) hP hD [0] [1] rfl rfl (by decide) (by decide) hk1 hFc hP1 hD1
    have hP : va_P D vwCl [((a 204), .inr (5, [.int 0, .ref (g 100), .int 0])), ((a 200), .inr (21, [.int 1, .ref (a 201), .ref (a 202), .ref (a 203), .ref (a 204), .ref (a 205), .ref (a 206), .int 0, .int 0, .int 0, .int 0, .ref (a 208), .ref (a 209), .ref (a 210), .ref (a 211), .ref (a 212), .int 4, .int 12, .int (-1), .int 0, .ref (g 200), .ref (a 213), .int 0, .int 97, .ref (a 214), .ref (a 215), .ref (a 207), .null, .int 0]))] H := hP
    have hD : va_D (va_A [((a 200), f_m a g), ((a 204), .inr (5, [.int 0, .ref (g 100), .int 0]))] s.heap.size) [((a 204), .inr (5, [.int 0, .ref (g 100), .int 0])), ((a 200), .inr (21, [.int 1, .ref (a 201), .ref (a 202), .ref (a 203), .ref (a 204), .ref (a 205), .ref (a 206), .int 0, .int 0, .int 0, .int 0, .ref (a 208), .ref (a 209), .ref (a 210), .ref (a 211), .ref (a 212), .int 4, .int 12, .int (-1), .int 0, .ref (g 200), .ref (a 213), .int 0, .int 97, .ref (a 214), .ref (a 215), .ref (a 207), .null, .int 0]))] := hD
    refine lv_if_eq (tgt := 24) hx hb dX15_pinOf_17 (by decide) (fun c_2 => ?_) (fun c_2 => ?_)
    · exact absurd c_2 (by decide)
    · refine lv_iconst (v := 0) hx hb dX15_pinOf_20 (by decide) ?_
      refine lv_goto (tgt := 63) hx hb dX15_pinOf_21 (by decide) ?_
      have hP9 := hP.sub (ws' := [((a 200), .inr (21, [.int 1, .ref (a 201), .ref (a 202), .ref (a 203), .ref (a 204), .ref (a 205), .ref (a 206), .int 0, .int 0, .int 0, .int 0, .ref (a 208), .ref (a 209), .ref (a 210), .ref (a 211), .ref (a 212), .int 4, .int 12, .int (-1), .int 0, .ref (g 200), .ref (a 213), .int 0, .int 97, .ref (a 214), .ref (a 215), .ref (a 207), .null, .int 0]))]) [1] rfl
      have hD9 := hD.sub (ws' := [((a 200), .inr (21, [.int 1, .ref (a 201), .ref (a 202), .ref (a 203), .ref (a 204), .ref (a 205), .ref (a 206), .int 0, .int 0, .int 0, .int 0, .ref (a 208), .ref (a 209), .ref (a 210), .ref (a 211), .ref (a 212), .int 4, .int 12, .int (-1), .int 0, .ref (g 200), .ref (a 213), .int 0, .int 97, .ref (a 214), .ref (a 215), .ref (a 207), .null, .int 0]))]) [1] (by decide) rfl
      refine W.widen (k := 0) (n := 0) (Nat.le_of_ble_eq_true rfl) (Nat.le_of_ble_eq_true rfl) ?_
      exact W.iret (v := 0) hx hb hr (fun t ht9 hW9 => ⟨⟨0, (), rfl, ⟨rfl, trivial⟩, ⟨(by rw [ht9]; exact hP9), hD9⟩⟩, hS.F ht9⟩) hS.2.2 dX15_pinOf_63 hlocks
  · exact absurd c_1 (by decide)
set_option maxHeartbeats 4000000 in
set_option maxRecDepth 100000 in
theorem k_X15_power (l : Launch) (D : va_G) (g : Nat → ClassId) (z0 sz : Nat) (a : Nat → Nat) (p0 : Int32) : Met l yX15_power (.code yX15_power cX15_power 5 (some .int) :: TG) (rmk 2 0 0 43) (va_Pc [.ref (a 200), .int p0] (PP D g z0 sz [((a 200), f_m a g), ((a 206), .inr (5, [.int 0, .ref (g 100), .int 0]))])) (va_Qi (fun (r : Int32) (u : Unit) => (r = 0) ∧ True) (fun (u : Unit) (t : State) => va_P D vwCl [((a 200), .inr (21, [.int 1, .ref (a 201), .ref (a 202), .ref (a 203), .ref (a 204), .ref (a 205), .ref (a 206), .int 0, .int 0, .int 0, .int 0, .ref (a 208), .ref (a 209), .ref (a 210), .ref (a 211), .ref (a 212), .int 4, .int 12, .int (-1), .int 0, .ref (g 200), .ref (a 213), .int 0, .int 97, .ref (a 214), .ref (a 215), .ref (a 207), .null, .int 0]))] t.heap ∧ va_D (va_A [((a 200), f_m a g), ((a 206), .inr (5, [.int 0, .ref (g 100), .int 0]))] sz) [((a 200), .inr (21, [.int 1, .ref (a 201), .ref (a 202), .ref (a 203), .ref (a 204), .ref (a 205), .ref (a 206), .int 0, .int 0, .int 0, .int 0, .ref (a 208), .ref (a 209), .ref (a 210), .ref (a 211), .ref (a 212), .int 4, .int 12, .int (-1), .int 0, .ref (g 200), .ref (a 213), .int 0, .int 97, .ref (a 214), .ref (a 215), .ref (a 207), .null, .int 0]))]) (va_A [((a 200), f_m a g), ((a 206), .inr (5, [.int 0, .ref (g 100), .int 0]))] sz)) 0 0 (va_A [((a 200), f_m a g), ((a 206), .inr (5, [.int 0, .ref (g 100), .int 0]))] sz) := by
  refine met0 (cc := cX15_power) (n := 5) (by decide) (Nat.le_of_ble_eq_true rfl) ?_
  intro p e s m args below meth c hx hb hr hml hown ht hlocks hnm hP0 hD0 hK hZ hsz hz ls hl
  subst hsz
  have hA : ∀ q : Nat, s.heap.size ≤ q → va_A [((a 200), f_m a g), ((a 206), .inr (5, [.int 0, .ref (g 100), .int 0]))] s.heap.size q := Anw
  have hAz : ∀ q, va_A [((a 200), f_m a g), ((a 206), .inr (5, [.int 0, .ref (g 100), .int 0]))] s.heap.size q → z0 ≤ q := Awz hz hD0
  have hS : va_S (va_A [((a 200), f_m a g), ((a 206), .inr (5, [.int 0, .ref (g 100), .int 0]))] s.heap.size) s.heap s.heap [] := va_S.rf
  have hD : va_D (va_A [((a 200), f_m a g), ((a 206), .inr (5, [.int 0, .ref (g 100), .int 0]))] s.heap.size) [((a 200), f_m a g), ((a 206), .inr (5, [.int 0, .ref (g 100), .int 0]))] := hD0.self
  have hP : va_P D vwCl [((a 200), f_m a g), ((a 206), .inr (5, [.int 0, .ref (g 100), .int 0]))] s.heap := hP0
  have hl : lv_has ls 5 [(0, .ref (a 200)), (1, .int p0)] := hl
  refine lv_aload_n hx hb dX15_power_0 rfl (lv_at hl 0 rfl) ?_
  refine lv_aload_n hx hb dX15_power_1 rfl (lv_at hl 0 rfl) ?_
  refine lv_iload_n hx hb dX15_power_2 rfl (lv_at hl 1 rfl) ?_
  have hPc : va_P D vwCl [((a 200), f_m a g), ((a 206), .inr (5, [.int 0, .ref (g 100), .int 0]))] _ := hP.sub (ws' := [((a 200), f_m a g), ((a 206), .inr (5, [.int 0, .ref (g 100), .int 0]))]) [0, 1] rfl
  have hDc : va_D (fun q => z0 ≤ q) [((a 200), f_m a g), ((a 206), .inr (5, [.int 0, .ref (g 100), .int 0]))] := (hD.to hAz).pick (ws' := [((a 200), f_m a g), ((a 206), .inr (5, [.int 0, .ref (g 100), .int 0]))]) [0, 1] (by decide) rfl
  have hFc := AnA (ws := [((a 200), f_m a g), ((a 206), .inr (5, [.int 0, .ref (g 100), .int 0]))]) hS.1
  refine va_calli (va_runV (As := [.int p0]) (rest := [.ref (a 200)]) ⟨hx, hb, hml, hown, ht⟩ (k_X15_isPattern l D g z0 _ a p0) (cwV 1 ht (gV w_498 w_500 w_501 w_334 w_499) rfl rfl rfl (by decide +kernel) (le2 rfl rfl)) ⟨PP.blind, va_recv hK.1 hP (ci := 21) (q0 := 0) rfl rfl, PP.mk' hK hZ hz hAz hS hPc hDc⟩ rfl rfl hl.1 rfl (lv_room (Nat.le_of_ble_eq_true rfl)) dX15_power_3 (le2 rfl rfl)) hS (fun q _ h => hFc q h) hFc (fun r u t H locs ht1 hvm hw hB hz1 hk1 hS => ?_)
  obtain ⟨rfl, hw⟩ := hw
  have hP := ro1 hP hk1
  refine lv_if_eq (tgt := 13) hx hb dX15_power_6 (by decide) (fun c_1 => ?_) (fun c_1 => ?_)
  · refine lv_iconst (v := 1) hx hb dX15_power_13 (by decide) ?_
    have hPc : va_P D vwCl [((a 200), f_m a g)] _ := hP.sub (ws' := [((a 200), f_m a g)]) [0] rfl
    have hDc : va_D (fun q => z0 ≤ q) [((a 200), f_m a g)] := (hD.to hAz).pick (ws' := [((a 200), f_m a g)]) [0] (by decide) rfl
    have hFc := va_free (wc := [((a 200), f_m a g)]) hD hS hA [0] rfl
    refine va_calli (va_runV (As := [.int 1]) (rest := []) ⟨hx, hb, hml, hown, ht⟩ (k_X15_isWrong l D g z0 _ a) (cwV 1 ht (gV w_376 w_378 w_379 w_334 w_377) rfl rfl rfl (by decide +kernel) (le2 rfl rfl)) ⟨PP.blind, va_recv hK.1 hP (ci := 21) (q0 := 0) rfl rfl, PP.mk' hK hZ hz hAz hS hPc hDc⟩ rfl rfl hl.1 rfl (lv_room (Nat.le_of_ble_eq_true rfl)) dX15_power_14 (le2 rfl rfl)) hS (fun q _ h => hFc q h) hFc (fun r u t H locs ht1 hvm hw hB hz1 hk1 hS => ?_)
    obtain ⟨rfl, hw⟩ := hw
    obtain ⟨hP1, hD1⟩ := hB
    rw [ht1] at hP1
    obtain ⟨hP, hD⟩ := va_join (wr := [((a 206), .inr (5, [.int 0, .ref (g 100), .int 0]))]) (w1 := [((a 200), .inr (21, [.int 1, .ref (a 201), .ref (a 202), .ref (a 203), .ref (a 204), .ref (a 205), .ref (a 206), .int 0, .int 0, .int 0, .int 0, .ref (a 208), .ref (a 209), .ref (a 210), .ref (a 211), .ref (a 212), .int 4, .int 12, .int (-1), .int 0, .ref (g 200), .ref (a 213), .int 0, .int 97, .ref (a 214), .ref (a 215), .ref (a 207), .null, .int 0]))]) hP hD [0] [1] rfl rfl (by decide) (by decide) hk1 hFc hP1 hD1
    have hP : va_P D vwCl [((a 206), .inr (5, [.int 0, .ref (g 100), .int 0])), ((a 200), .inr (21, [.int 1, .ref (a 201), .ref (a 202), .ref (a 203), .ref (a 204), .ref (a 205), .ref (a 206), .int 0, .int 0, .int 0, .int 0, .ref (a 208), .ref (a 209), .ref (a 210), .ref (a 211), .ref (a 212), .int 4, .int 12, .int (-1), .int 0, .ref (g 200), .ref (a 213), .int 0, .int 97, .ref (a 214), .ref (a 215), .ref (a 207), .null, .int 0]))] H := hP
    have hD : va_D (va_A [((a 200), f_m a g), ((a 206), .inr (5, [.int 0, .ref (g 100), .int 0]))] s.heap.size) [((a 206), .inr (5, [.int 0, .ref (g 100), .int 0])), ((a 200), .inr (21, [.int 1, .ref (a 201), .ref (a 202), .ref (a 203), .ref (a 204), .ref (a 205), .ref (a 206), .int 0, .int 0, .int 0, .int 0, .ref (a 208), .ref (a 209), .ref (a 210), .ref (a 211), .ref (a 212), .int 4, .int 12, .int (-1), .int 0, .ref (g 200), .ref (a 213), .int 0, .int 97, .ref (a 214), .ref (a 215), .ref (a 207), .null, .int 0]))] := hD
    refine lv_if_eq (tgt := 22) hx hb dX15_power_17 (by decide) (fun c_2 => ?_) (fun c_2 => ?_)
    · exact absurd c_2 (by decide)
    · refine lv_iconst (v := 0) hx hb dX15_power_20 (by decide) ?_
      have hP9 := hP.sub (ws' := [((a 200), .inr (21, [.int 1, .ref (a 201), .ref (a 202), .ref (a 203), .ref (a 204), .ref (a 205), .ref (a 206), .int 0, .int 0, .int 0, .int 0, .ref (a 208), .ref (a 209), .ref (a 210), .ref (a 211), .ref (a 212), .int 4, .int 12, .int (-1), .int 0, .ref (g 200), .ref (a 213), .int 0, .int 97, .ref (a 214), .ref (a 215), .ref (a 207), .null, .int 0]))]) [1] rfl
      have hD9 := hD.sub (ws' := [((a 200), .inr (21, [.int 1, .ref (a 201), .ref (a 202), .ref (a 203), .ref (a 204), .ref (a 205), .ref (a 206), .int 0, .int 0, .int 0, .int 0, .ref (a 208), .ref (a 209), .ref (a 210), .ref (a 211), .ref (a 212), .int 4, .int 12, .int (-1), .int 0, .ref (g 200), .ref (a 213), .int 0, .int 97, .ref (a 214), .ref (a 215), .ref (a 207), .null, .int 0]))]) [1] (by decide) rfl
      refine W.widen (k := 0) (n := 0) (Nat.le_of_ble_eq_true rfl) (Nat.le_of_ble_eq_true rfl) ?_
      exact W.iret (v := 0) hx hb hr (fun t ht9 hW9 => ⟨⟨0, (), rfl, ⟨rfl, trivial⟩, ⟨(by rw [ht9]; exact hP9), hD9⟩⟩, hS.F ht9⟩) hS.2.2 dX15_power_21 hlocks
  · exact absurd c_1 (by decide)
set_option maxHeartbeats 4000000 in
set_option maxRecDepth 100000 in
theorem k_X15_record (l : Launch) (D : va_G) (g : Nat → ClassId) (z0 sz : Nat) (a : Nat → Nat) : Met l yX15_record (.code yX15_record cX15_record 2 (some .int) :: TG) (rmk 6 4 10 119) (va_Pc [.ref (a 200)] (PP D g z0 sz [((a 200), f_m a g), ((a 201), .inr (5, [.int 0, .ref (g 100), .int 0]))])) (va_Qi (fun (r : Int32) (u : Unit) => (r = 0) ∧ True) (fun (u : Unit) (t : State) => va_P D vwCl [((a 200), .inr (21, [.int 1, .ref (a 201), .ref (a 202), .ref (a 203), .ref (a 204), .ref (a 205), .ref (a 206), .int 0, .int 0, .int 0, .int 0, .ref (a 208), .ref (a 209), .ref (a 210), .ref (a 211), .ref (a 212), .int 4, .int 12, .int (-1), .int 0, .ref (g 200), .ref (a 213), .int 0, .int 97, .ref (a 214), .ref (a 215), .ref (a 207), .null, .int 0]))] t.heap ∧ va_D (va_A [((a 200), f_m a g), ((a 201), .inr (5, [.int 0, .ref (g 100), .int 0]))] sz) [((a 200), .inr (21, [.int 1, .ref (a 201), .ref (a 202), .ref (a 203), .ref (a 204), .ref (a 205), .ref (a 206), .int 0, .int 0, .int 0, .int 0, .ref (a 208), .ref (a 209), .ref (a 210), .ref (a 211), .ref (a 212), .int 4, .int 12, .int (-1), .int 0, .ref (g 200), .ref (a 213), .int 0, .int 97, .ref (a 214), .ref (a 215), .ref (a 207), .null, .int 0]))]) (va_A [((a 200), f_m a g), ((a 201), .inr (5, [.int 0, .ref (g 100), .int 0]))] sz)) 4 10 (va_A [((a 200), f_m a g), ((a 201), .inr (5, [.int 0, .ref (g 100), .int 0]))] sz) := by
  refine met0 (cc := cX15_record) (n := 2) (by decide) (Nat.le_of_ble_eq_true rfl) ?_
  intro p e s m args below meth c hx hb hr hml hown ht hlocks hnm hP0 hD0 hK hZ hsz hz ls hl
  subst hsz
  have hA : ∀ q : Nat, s.heap.size ≤ q → va_A [((a 200), f_m a g), ((a 201), .inr (5, [.int 0, .ref (g 100), .int 0]))] s.heap.size q := Anw
  have hAz : ∀ q, va_A [((a 200), f_m a g), ((a 201), .inr (5, [.int 0, .ref (g 100), .int 0]))] s.heap.size q → z0 ≤ q := Awz hz hD0
  have hS : va_S (va_A [((a 200), f_m a g), ((a 201), .inr (5, [.int 0, .ref (g 100), .int 0]))] s.heap.size) s.heap s.heap [] := va_S.rf
  have hD : va_D (va_A [((a 200), f_m a g), ((a 201), .inr (5, [.int 0, .ref (g 100), .int 0]))] s.heap.size) [((a 200), f_m a g), ((a 201), .inr (5, [.int 0, .ref (g 100), .int 0]))] := hD0.self
  have hP : va_P D vwCl [((a 200), f_m a g), ((a 201), .inr (5, [.int 0, .ref (g 100), .int 0]))] s.heap := hP0
  have hl : lv_has ls 2 [(0, .ref (a 200))] := hl
  refine lv_aload_n hx hb dX15_record_0 rfl (lv_at hl 0 rfl) ?_
  have hPc : va_P D vwCl [((a 200), f_m a g), ((a 201), .inr (5, [.int 0, .ref (g 100), .int 0]))] _ := hP.sub (ws' := [((a 200), f_m a g), ((a 201), .inr (5, [.int 0, .ref (g 100), .int 0]))]) [0, 1] rfl
  have hDc : va_D (fun q => z0 ≤ q) [((a 200), f_m a g), ((a 201), .inr (5, [.int 0, .ref (g 100), .int 0]))] := (hD.to hAz).pick (ws' := [((a 200), f_m a g), ((a 201), .inr (5, [.int 0, .ref (g 100), .int 0]))]) [0, 1] (by decide) rfl
  have hFc := va_free (wc := [((a 200), f_m a g), ((a 201), .inr (5, [.int 0, .ref (g 100), .int 0]))]) hD hS hA [0, 1] rfl
  refine va_callr (va_runV (As := []) (rest := []) ⟨hx, hb, hml, hown, ht⟩ (k_X15_candidates l D g z0 _ a) (cwV 0 ht (gV w_433 w_435 w_436 w_334 w_434) rfl rfl rfl (by decide +kernel) (le2 rfl rfl)) ⟨PP.blind, va_recv hK.1 hP (ci := 21) (q0 := 0) rfl rfl, PP.mk' hK hZ hz hAz hS hPc hDc⟩ rfl rfl hl.1 rfl (lv_room (Nat.le_of_ble_eq_true rfl)) dX15_record_1 (le2 rfl rfl)) hS (fun q _ h => hFc q h) hFc (fun u ra t H locs ht1 hvm hw hB hz1 hk1 hS => ?_)
  obtain ⟨q_1, hr9, hP1, hD1⟩ := hB
  rw [ht1] at hP1
  obtain ⟨hP, hD⟩ := va_join (wr := []) (w1 := [(q_1, .inr (5, [.int 0, .ref (g 100), .int 0])), ((a 200), f_m a g), ((a 201), .inr (5, [.int 0, .ref (g 100), .int 0]))]) hP hD [0, 1] [] rfl rfl (by decide) (by decide) hk1 hFc hP1 hD1
  subst hr9
  have hP : va_P D vwCl [(q_1, .inr (5, [.int 0, .ref (g 100), .int 0])), ((a 200), f_m a g), ((a 201), .inr (5, [.int 0, .ref (g 100), .int 0]))] H := hP
  have hD : va_D (va_A [((a 200), f_m a g), ((a 201), .inr (5, [.int 0, .ref (g 100), .int 0]))] s.heap.size) [(q_1, .inr (5, [.int 0, .ref (g 100), .int 0])), ((a 200), f_m a g), ((a 201), .inr (5, [.int 0, .ref (g 100), .int 0]))] := hD
  refine lv_astore_n (lv' := [(1, .ref q_1), (0, .ref (a 200))]) hx hb dX15_record_4 rfl hl (by decide) rfl (fun ls hl => ?_)
  refine lv_aload_n hx hb dX15_record_5 rfl (lv_at hl 1 rfl) ?_
  refine lv_aload_n hx hb dX15_record_6 rfl (lv_at hl 0 rfl) ?_
  have hPc : va_P D vwCl [(q_1, .inr (5, [.int 0, .ref (g 100), .int 0]))] _ := hP.sub (ws' := [(q_1, .inr (5, [.int 0, .ref (g 100), .int 0]))]) [0] rfl
  have hDc : va_D (fun q => z0 ≤ q) [(q_1, .inr (5, [.int 0, .ref (g 100), .int 0]))] := (hD.to hAz).pick (ws' := [(q_1, .inr (5, [.int 0, .ref (g 100), .int 0]))]) [0] (by decide) rfl
  have hFc := AnA (ws := [((a 200), f_m a g), ((a 201), .inr (5, [.int 0, .ref (g 100), .int 0]))]) hS.1
  refine va_callFi (va_runF (As := []) (rest := [.ref (a 200)]) (hK.1.1 5 _ rfl).2 ⟨hx, hb, hml, hown, ht⟩ (k_Jx4a65c_isEmpty_aae02 l D g z0 _ a q_1) (va_cwF 0 ht (gF w_487 w_489 w_490 w_323 w_488) rfl rfl rfl (hK.2.2.2.1 _ (List.mem_of_getElem? (i := 6) rfl)) (by decide +kernel) (le2 rfl rfl)) ⟨PP.blind, va_recv hK.1 hP (ci := 5) (q0 := 0) rfl rfl, PP.mk' hK hZ hz hAz hS hPc hDc⟩ rfl rfl hl.1 rfl (lv_room (Nat.le_of_ble_eq_true rfl)) dX15_record_7 (le2 rfl rfl)) hS (fun q _ h => hFc q h) hFc (fun r u t H locs ht1 hvm hw hB hz1 hk1 hS => ?_)
  obtain ⟨rfl, hw⟩ := hw
  have hP := ro1 hP hk1
  refine lv_if_eq (tgt := 19) hx hb dX15_record_12 (by decide) (fun c_2 => ?_) (fun c_2 => ?_)
  · exact absurd c_2 (by decide)
  · refine lv_iconst (v := 1) hx hb dX15_record_15 (by decide) ?_
    refine lv_goto (tgt := 20) hx hb dX15_record_16 (by decide) ?_
    have hPc : va_P D vwCl [((a 200), f_m a g)] _ := hP.sub (ws' := [((a 200), f_m a g)]) [1] rfl
    have hDc : va_D (fun q => z0 ≤ q) [((a 200), f_m a g)] := (hD.to hAz).pick (ws' := [((a 200), f_m a g)]) [1] (by decide) rfl
    have hFc := va_free (wc := [((a 200), f_m a g)]) hD hS hA [1] rfl
    refine va_calli (va_runV (As := [.int 1]) (rest := []) ⟨hx, hb, hml, hown, ht⟩ (k_X15_isWrong l D g z0 _ a) (cwV 1 ht (gV w_376 w_378 w_379 w_334 w_377) rfl rfl rfl (by decide +kernel) (le2 rfl rfl)) ⟨PP.blind, va_recv hK.1 hP (ci := 21) (q0 := 1) rfl rfl, PP.mk' hK hZ hz hAz hS hPc hDc⟩ rfl rfl hl.1 rfl (lv_room (Nat.le_of_ble_eq_true rfl)) dX15_record_20 (le2 rfl rfl)) hS (fun q _ h => hFc q h) hFc (fun r u t H locs ht1 hvm hw hB hz1 hk1 hS => ?_)
    obtain ⟨rfl, hw⟩ := hw
    obtain ⟨hP1, hD1⟩ := hB
    rw [ht1] at hP1
    obtain ⟨hP, hD⟩ := va_join (wr := [(q_1, .inr (5, [.int 0, .ref (g 100), .int 0])), ((a 201), .inr (5, [.int 0, .ref (g 100), .int 0]))]) (w1 := [((a 200), .inr (21, [.int 1, .ref (a 201), .ref (a 202), .ref (a 203), .ref (a 204), .ref (a 205), .ref (a 206), .int 0, .int 0, .int 0, .int 0, .ref (a 208), .ref (a 209), .ref (a 210), .ref (a 211), .ref (a 212), .int 4, .int 12, .int (-1), .int 0, .ref (g 200), .ref (a 213), .int 0, .int 97, .ref (a 214), .ref (a 215), .ref (a 207), .null, .int 0]))]) hP hD [1] [0, 2] rfl rfl (by decide) (by decide) hk1 hFc hP1 hD1
    have hP : va_P D vwCl [(q_1, .inr (5, [.int 0, .ref (g 100), .int 0])), ((a 201), .inr (5, [.int 0, .ref (g 100), .int 0])), ((a 200), .inr (21, [.int 1, .ref (a 201), .ref (a 202), .ref (a 203), .ref (a 204), .ref (a 205), .ref (a 206), .int 0, .int 0, .int 0, .int 0, .ref (a 208), .ref (a 209), .ref (a 210), .ref (a 211), .ref (a 212), .int 4, .int 12, .int (-1), .int 0, .ref (g 200), .ref (a 213), .int 0, .int 97, .ref (a 214), .ref (a 215), .ref (a 207), .null, .int 0]))] H := hP
    have hD : va_D (va_A [((a 200), f_m a g), ((a 201), .inr (5, [.int 0, .ref (g 100), .int 0]))] s.heap.size) [(q_1, .inr (5, [.int 0, .ref (g 100), .int 0])), ((a 201), .inr (5, [.int 0, .ref (g 100), .int 0])), ((a 200), .inr (21, [.int 1, .ref (a 201), .ref (a 202), .ref (a 203), .ref (a 204), .ref (a 205), .ref (a 206), .int 0, .int 0, .int 0, .int 0, .ref (a 208), .ref (a 209), .ref (a 210), .ref (a 211), .ref (a 212), .int 4, .int 12, .int (-1), .int 0, .ref (g 200), .ref (a 213), .int 0, .int 97, .ref (a 214), .ref (a 215), .ref (a 207), .null, .int 0]))] := hD
    refine lv_if_eq (tgt := 28) hx hb dX15_record_23 (by decide) (fun c_3 => ?_) (fun c_3 => ?_)
    · exact absurd c_3 (by decide)
    · refine lv_iconst (v := 0) hx hb dX15_record_26 (by decide) ?_
      have hP9 := hP.sub (ws' := [((a 200), .inr (21, [.int 1, .ref (a 201), .ref (a 202), .ref (a 203), .ref (a 204), .ref (a 205), .ref (a 206), .int 0, .int 0, .int 0, .int 0, .ref (a 208), .ref (a 209), .ref (a 210), .ref (a 211), .ref (a 212), .int 4, .int 12, .int (-1), .int 0, .ref (g 200), .ref (a 213), .int 0, .int 97, .ref (a 214), .ref (a 215), .ref (a 207), .null, .int 0]))]) [2] rfl
      have hD9 := hD.sub (ws' := [((a 200), .inr (21, [.int 1, .ref (a 201), .ref (a 202), .ref (a 203), .ref (a 204), .ref (a 205), .ref (a 206), .int 0, .int 0, .int 0, .int 0, .ref (a 208), .ref (a 209), .ref (a 210), .ref (a 211), .ref (a 212), .int 4, .int 12, .int (-1), .int 0, .ref (g 200), .ref (a 213), .int 0, .int 97, .ref (a 214), .ref (a 215), .ref (a 207), .null, .int 0]))]) [2] (by decide) rfl
      refine W.widen (k := 4) (n := 10) (Nat.le_of_ble_eq_true rfl) (Nat.le_of_ble_eq_true rfl) ?_
      exact W.iret (v := 0) hx hb hr (fun t ht9 hW9 => ⟨⟨0, (), rfl, ⟨rfl, trivial⟩, ⟨(by rw [ht9]; exact hP9), hD9⟩⟩, hS.F ht9⟩) hS.2.2 dX15_record_27 hlocks
set_option maxHeartbeats 4000000 in
set_option maxRecDepth 100000 in
theorem k_X15_sameAs (l : Launch) (D : va_G) (g : Nat → ClassId) (z0 sz : Nat) (a : Nat → Nat) (p0 : Int32) (p1 : Int32) (hc_p1 : isC p1) : Met l yX15_sameAs (.code yX15_sameAs cX15_sameAs 5 (some .int) :: TG) (rmk 3 0 0 65) (va_Pc [.ref (a 200), .int p0, .int p1] (PP D g z0 sz [((a 200), f_m a g)])) (va_Qi (fun (r : Int32) (u : Unit) => (r = 0) ∧ True) (fun (u : Unit) (t : State) => va_P D vwCl [((a 200), .inr (21, [.int 1, .ref (a 201), .ref (a 202), .ref (a 203), .ref (a 204), .ref (a 205), .ref (a 206), .int 0, .int 0, .int 0, .int 0, .ref (a 208), .ref (a 209), .ref (a 210), .ref (a 211), .ref (a 212), .int 4, .int 12, .int (-1), .int 0, .ref (g 200), .ref (a 213), .int 0, .int 97, .ref (a 214), .ref (a 215), .ref (a 207), .null, .int 0]))] t.heap ∧ va_D (va_A [((a 200), f_m a g)] sz) [((a 200), .inr (21, [.int 1, .ref (a 201), .ref (a 202), .ref (a 203), .ref (a 204), .ref (a 205), .ref (a 206), .int 0, .int 0, .int 0, .int 0, .ref (a 208), .ref (a 209), .ref (a 210), .ref (a 211), .ref (a 212), .int 4, .int 12, .int (-1), .int 0, .ref (g 200), .ref (a 213), .int 0, .int 97, .ref (a 214), .ref (a 215), .ref (a 207), .null, .int 0]))]) (va_A [((a 200), f_m a g)] sz)) 0 0 (va_A [((a 200), f_m a g)] sz) := by
  refine met0 (cc := cX15_sameAs) (n := 5) (by decide) (Nat.le_of_ble_eq_true rfl) ?_
  intro p e s m args below meth c hx hb hr hml hown ht hlocks hnm hP0 hD0 hK hZ hsz hz ls hl
  subst hsz
  have hA : ∀ q : Nat, s.heap.size ≤ q → va_A [((a 200), f_m a g)] s.heap.size q := Anw
  have hAz : ∀ q, va_A [((a 200), f_m a g)] s.heap.size q → z0 ≤ q := Awz hz hD0
  have hS : va_S (va_A [((a 200), f_m a g)] s.heap.size) s.heap s.heap [] := va_S.rf
  have hD : va_D (va_A [((a 200), f_m a g)] s.heap.size) [((a 200), f_m a g)] := hD0.self
  have hP : va_P D vwCl [((a 200), f_m a g)] s.heap := hP0
  have hl : lv_has ls 5 [(0, .ref (a 200)), (1, .int p0), (2, .int p1)] := hl
  refine lv_aload_n hx hb dX15_sameAs_0 rfl (lv_at hl 0 rfl) ?_
  refine lv_iload_n hx hb dX15_sameAs_1 rfl (lv_at hl 1 rfl) ?_
  refine lv_iload_n hx hb dX15_sameAs_2 rfl (lv_at hl 2 rfl) ?_
  have hPc : va_P D vwCl [((a 200), f_m a g)] _ := hP.sub (ws' := [((a 200), f_m a g)]) [0] rfl
  have hDc : va_D (fun q => z0 ≤ q) [((a 200), f_m a g)] := (hD.to hAz).pick (ws' := [((a 200), f_m a g)]) [0] (by decide) rfl
  have hFc := va_free (wc := [((a 200), f_m a g)]) hD hS hA [0] rfl
  refine va_calli (va_runV (As := [.int p0, .int p1]) (rest := []) ⟨hx, hb, hml, hown, ht⟩ (k_X15_isNoWire l D g z0 _ a p0 p1 hc_p1) (cwV 2 ht (gV w_506 w_508 w_509 w_334 w_507) rfl rfl rfl (by decide +kernel) (le2 rfl rfl)) ⟨PP.blind, va_recv hK.1 hP (ci := 21) (q0 := 0) rfl rfl, PP.mk' hK hZ hz hAz hS hPc hDc⟩ rfl rfl hl.1 rfl (lv_room (Nat.le_of_ble_eq_true rfl)) dX15_sameAs_3 (le2 rfl rfl)) hS (fun q _ h => hFc q h) hFc (fun r u t H locs ht1 hvm hw hB hz1 hk1 hS => ?_)
  obtain ⟨rfl, hw⟩ := hw
  obtain ⟨hP1, hD1⟩ := hB
  rw [ht1] at hP1
  obtain ⟨hP, hD⟩ := va_join (wr := []) (w1 := [((a 200), .inr (21, [.int 1, .ref (a 201), .ref (a 202), .ref (a 203), .ref (a 204), .ref (a 205), .ref (a 206), .int 0, .int 0, .int 0, .int 0, .ref (a 208), .ref (a 209), .ref (a 210), .ref (a 211), .ref (a 212), .int 4, .int 12, .int (-1), .int 0, .ref (g 200), .ref (a 213), .int 0, .int 97, .ref (a 214), .ref (a 215), .ref (a 207), .null, .int 0]))]) hP hD [0] [] rfl rfl (by decide) (by decide) hk1 hFc hP1 hD1
  have hP : va_P D vwCl [((a 200), .inr (21, [.int 1, .ref (a 201), .ref (a 202), .ref (a 203), .ref (a 204), .ref (a 205), .ref (a 206), .int 0, .int 0, .int 0, .int 0, .ref (a 208), .ref (a 209), .ref (a 210), .ref (a 211), .ref (a 212), .int 4, .int 12, .int (-1), .int 0, .ref (g 200), .ref (a 213), .int 0, .int 97, .ref (a 214), .ref (a 215), .ref (a 207), .null, .int 0]))] H := hP
  have hD : va_D (va_A [((a 200), f_m a g)] s.heap.size) [((a 200), .inr (21, [.int 1, .ref (a 201), .ref (a 202), .ref (a 203), .ref (a 204), .ref (a 205), .ref (a 206), .int 0, .int 0, .int 0, .int 0, .ref (a 208), .ref (a 209), .ref (a 210), .ref (a 211), .ref (a 212), .int 4, .int 12, .int (-1), .int 0, .ref (g 200), .ref (a 213), .int 0, .int 97, .ref (a 214), .ref (a 215), .ref (a 207), .null, .int 0]))] := hD
  refine lv_if_eq (tgt := 11) hx hb dX15_sameAs_6 (by decide) (fun c_1 => ?_) (fun c_1 => ?_)
  · exact absurd c_1 (by decide)
  · refine lv_iconst (v := 0) hx hb dX15_sameAs_9 (by decide) ?_
    have hP9 := hP.sub (ws' := [((a 200), .inr (21, [.int 1, .ref (a 201), .ref (a 202), .ref (a 203), .ref (a 204), .ref (a 205), .ref (a 206), .int 0, .int 0, .int 0, .int 0, .ref (a 208), .ref (a 209), .ref (a 210), .ref (a 211), .ref (a 212), .int 4, .int 12, .int (-1), .int 0, .ref (g 200), .ref (a 213), .int 0, .int 97, .ref (a 214), .ref (a 215), .ref (a 207), .null, .int 0]))]) [0] rfl
    have hD9 := hD.sub (ws' := [((a 200), .inr (21, [.int 1, .ref (a 201), .ref (a 202), .ref (a 203), .ref (a 204), .ref (a 205), .ref (a 206), .int 0, .int 0, .int 0, .int 0, .ref (a 208), .ref (a 209), .ref (a 210), .ref (a 211), .ref (a 212), .int 4, .int 12, .int (-1), .int 0, .ref (g 200), .ref (a 213), .int 0, .int 97, .ref (a 214), .ref (a 215), .ref (a 207), .null, .int 0]))]) [0] (by decide) rfl
    refine W.widen (k := 0) (n := 0) (Nat.le_of_ble_eq_true rfl) (Nat.le_of_ble_eq_true rfl) ?_
    exact W.iret (v := 0) hx hb hr (fun t ht9 hW9 => ⟨⟨0, (), rfl, ⟨rfl, trivial⟩, ⟨(by rw [ht9]; exact hP9), hD9⟩⟩, hS.F ht9⟩) hS.2.2 dX15_sameAs_10 hlocks
