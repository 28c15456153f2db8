theorem dX15_seedFor_0 : decode cX15_seedFor 0 = .ok (.aload_n 0, 1) := by decide +kernel
theorem dX15_seedFor_1 : decode cX15_seedFor 1 = .ok (.aload_n 0, 1) := by decide +kernel
theorem dX15_seedFor_2 : decode cX15_seedFor 2 = .ok (.iload_n 1, 1) := by decide +kernel
theorem dX15_seedFor_3 : decode cX15_seedFor 3 = .ok (.invokevirtual 283, 3) := by decide +kernel
theorem dX15_seedFor_6 : decode cX15_seedFor 6 = .ok (.ifCond .eq 7, 3) := by decide +kernel
theorem dX15_seedFor_9 : decode cX15_seedFor 9 = .ok (.iconst 0, 1) := by decide +kernel
theorem dX15_seedFor_10 : decode cX15_seedFor 10 = .ok (.goto 4, 3) := by decide +kernel
theorem dX15_seedFor_13 : decode cX15_seedFor 13 = .ok (.iconst 1, 1) := by decide +kernel
theorem dX15_seedFor_14 : decode cX15_seedFor 14 = .ok (.invokevirtual 106, 3) := by decide +kernel
theorem dX15_seedFor_17 : decode cX15_seedFor 17 = .ok (.ifCond .eq 5, 3) := by decide +kernel
theorem dX15_seedFor_20 : decode cX15_seedFor 20 = .ok (.iconst 0, 1) := by decide +kernel
theorem dX15_seedFor_21 : decode cX15_seedFor 21 = .ok (.ireturn, 1) := by decide +kernel
theorem dX15_seedFor_22 : decode cX15_seedFor 22 = .ok (.aload_n 0, 1) := by decide +kernel
theorem dX15_seedFor_23 : decode cX15_seedFor 23 = .ok (.getfield 32, 3) := by decide +kernel
theorem dX15_seedFor_26 : decode cX15_seedFor 26 = .ok (.iload_n 1, 1) := by decide +kernel
theorem dX15_seedFor_27 : decode cX15_seedFor 27 = .ok (.invokeinterface 143 2, 5) := by decide +kernel
theorem dX15_seedFor_32 : decode cX15_seedFor 32 = .ok (.checkcast 200, 3) := by decide +kernel
theorem dX15_seedFor_35 : decode cX15_seedFor 35 = .ok (.getfield 256, 3) := by decide +kernel
theorem dX15_seedFor_38 : decode cX15_seedFor 38 = .ok (.astore_n 2, 1) := by decide +kernel
theorem dX15_seedFor_39 : decode cX15_seedFor 39 = .ok (.aload_n 2, 1) := by decide +kernel
theorem dX15_seedFor_40 : decode cX15_seedFor 40 = .ok (.arraylength, 1) := by decide +kernel
theorem dX15_seedFor_41 : decode cX15_seedFor 41 = .ok (.newarray .int, 2) := by decide +kernel
theorem dX15_seedFor_43 : decode cX15_seedFor 43 = .ok (.astore_n 3, 1) := by decide +kernel
theorem dX15_seedFor_44 : decode cX15_seedFor 44 = .ok (.iconst 0, 1) := by decide +kernel
theorem dX15_seedFor_45 : decode cX15_seedFor 45 = .ok (.istore 4, 2) := by decide +kernel
theorem dX15_seedFor_47 : decode cX15_seedFor 47 = .ok (.iload 4, 2) := by decide +kernel
theorem dX15_seedFor_49 : decode cX15_seedFor 49 = .ok (.iconst 1, 1) := by decide +kernel
theorem dX15_seedFor_50 : decode cX15_seedFor 50 = .ok (.aload_n 0, 1) := by decide +kernel
theorem dX15_seedFor_51 : decode cX15_seedFor 51 = .ok (.getfield 53, 3) := by decide +kernel
theorem dX15_seedFor_54 : decode cX15_seedFor 54 = .ok (.ishl, 1) := by decide +kernel
theorem dX15_seedFor_55 : decode cX15_seedFor 55 = .ok (.if_icmp .ge 73, 3) := by decide +kernel
theorem dX15_seedFor_58 : decode cX15_seedFor 58 = .ok (.aload_n 0, 1) := by decide +kernel
theorem dX15_seedFor_59 : decode cX15_seedFor 59 = .ok (.iload 4, 2) := by decide +kernel
theorem dX15_seedFor_61 : decode cX15_seedFor 61 = .ok (.aload_n 3, 1) := by decide +kernel
theorem dX15_seedFor_62 : decode cX15_seedFor 62 = .ok (.invokevirtual 385, 3) := by decide +kernel
theorem dX15_seedFor_65 : decode cX15_seedFor 65 = .ok (.pop, 1) := by decide +kernel
theorem dX15_seedFor_66 : decode cX15_seedFor 66 = .ok (.iconst 1, 1) := by decide +kernel
theorem dX15_seedFor_67 : decode cX15_seedFor 67 = .ok (.istore 5, 2) := by decide +kernel
theorem dX15_seedFor_69 : decode cX15_seedFor 69 = .ok (.iconst 0, 1) := by decide +kernel
theorem dX15_seedFor_70 : decode cX15_seedFor 70 = .ok (.istore 6, 2) := by decide +kernel
theorem dX15_seedFor_72 : decode cX15_seedFor 72 = .ok (.iload 6, 2) := by decide +kernel
theorem dX15_seedFor_74 : decode cX15_seedFor 74 = .ok (.aload_n 3, 1) := by decide +kernel
theorem dX15_seedFor_75 : decode cX15_seedFor 75 = .ok (.arraylength, 1) := by decide +kernel
theorem dX15_seedFor_76 : decode cX15_seedFor 76 = .ok (.if_icmp .ge 38, 3) := by decide +kernel
theorem dX15_seedFor_79 : decode cX15_seedFor 79 = .ok (.iload 5, 2) := by decide +kernel
theorem dX15_seedFor_81 : decode cX15_seedFor 81 = .ok (.aload_n 2, 1) := by decide +kernel
theorem dX15_seedFor_82 : decode cX15_seedFor 82 = .ok (.iload 6, 2) := by decide +kernel
theorem dX15_seedFor_84 : decode cX15_seedFor 84 = .ok (.iaload, 1) := by decide +kernel
theorem dX15_seedFor_85 : decode cX15_seedFor 85 = .ok (.iconst 2, 1) := by decide +kernel
theorem dX15_seedFor_86 : decode cX15_seedFor 86 = .ok (.if_icmp .eq 14, 3) := by decide +kernel
theorem dX15_seedFor_89 : decode cX15_seedFor 89 = .ok (.aload_n 2, 1) := by decide +kernel
theorem dX15_seedFor_90 : decode cX15_seedFor 90 = .ok (.iload 6, 2) := by decide +kernel
theorem dX15_seedFor_92 : decode cX15_seedFor 92 = .ok (.iaload, 1) := by decide +kernel
theorem dX15_seedFor_93 : decode cX15_seedFor 93 = .ok (.aload_n 3, 1) := by decide +kernel
theorem dX15_seedFor_94 : decode cX15_seedFor 94 = .ok (.iload 6, 2) := by decide +kernel
theorem dX15_seedFor_96 : decode cX15_seedFor 96 = .ok (.iaload, 1) := by decide +kernel
theorem dX15_seedFor_97 : decode cX15_seedFor 97 = .ok (.if_icmp .ne 7, 3) := by decide +kernel
theorem dX15_seedFor_100 : decode cX15_seedFor 100 = .ok (.iconst 1, 1) := by decide +kernel
theorem dX15_seedFor_101 : decode cX15_seedFor 101 = .ok (.goto 4, 3) := by decide +kernel
theorem dX15_seedFor_104 : decode cX15_seedFor 104 = .ok (.iconst 0, 1) := by decide +kernel
theorem dX15_seedFor_105 : decode cX15_seedFor 105 = .ok (.iand, 1) := by decide +kernel
theorem dX15_seedFor_106 : decode cX15_seedFor 106 = .ok (.istore 5, 2) := by decide +kernel
theorem dX15_seedFor_108 : decode cX15_seedFor 108 = .ok (.iinc 6 1, 3) := by decide +kernel
theorem dX15_seedFor_111 : decode cX15_seedFor 111 = .ok (.goto (-39), 3) := by decide +kernel
theorem dX15_seedFor_114 : decode cX15_seedFor 114 = .ok (.iload 5, 2) := by decide +kernel
theorem dX15_seedFor_116 : decode cX15_seedFor 116 = .ok (.ifCond .eq 6, 3) := by decide +kernel
theorem dX15_seedFor_119 : decode cX15_seedFor 119 = .ok (.iload 4, 2) := by decide +kernel
theorem dX15_seedFor_121 : decode cX15_seedFor 121 = .ok (.ireturn, 1) := by decide +kernel
theorem dX15_seedFor_122 : decode cX15_seedFor 122 = .ok (.iinc 4 1, 3) := by decide +kernel
theorem dX15_seedFor_125 : decode cX15_seedFor 125 = .ok (.goto (-78), 3) := by decide +kernel
theorem dX15_seedFor_128 : decode cX15_seedFor 128 = .ok (.aload_n 0, 1) := by decide +kernel
theorem dX15_seedFor_129 : decode cX15_seedFor 129 = .ok (.iconst 2, 1) := by decide +kernel
theorem dX15_seedFor_130 : decode cX15_seedFor 130 = .ok (.putfield 1, 3) := by decide +kernel
theorem dX15_seedFor_133 : decode cX15_seedFor 133 = .ok (.iconst 0, 1) := by decide +kernel
theorem dX15_seedFor_134 : decode cX15_seedFor 134 = .ok (.ireturn, 1) := by decide +kernel
theorem dX15_seen_0 : decode cX15_seen 0 = .ok (.aload_n 0, 1) := by decide +kernel
theorem dX15_seen_1 : decode cX15_seen 1 = .ok (.aload_n 0, 1) := by decide +kernel
theorem dX15_seen_2 : decode cX15_seen 2 = .ok (.iload_n 1, 1) := by decide +kernel
theorem dX15_seen_3 : decode cX15_seen 3 = .ok (.invokevirtual 283, 3) := by decide +kernel
theorem dX15_seen_6 : decode cX15_seen 6 = .ok (.ifCond .eq 26, 3) := by decide +kernel
theorem dX15_seen_9 : decode cX15_seen 9 = .ok (.iload_n 2, 1) := by decide +kernel
theorem dX15_seen_10 : decode cX15_seen 10 = .ok (.iconst 0, 1) := by decide +kernel
theorem dX15_seen_11 : decode cX15_seen 11 = .ok (.aload_n 0, 1) := by decide +kernel
theorem dX15_seen_12 : decode cX15_seen 12 = .ok (.getfield 23, 3) := by decide +kernel
theorem dX15_seen_15 : decode cX15_seen 15 = .ok (.invokeinterface 92 1, 5) := by decide +kernel
theorem dX15_seen_20 : decode cX15_seen 20 = .ok (.iconst 1, 1) := by decide +kernel
theorem dX15_seen_21 : decode cX15_seen 21 = .ok (.isub, 1) := by decide +kernel
theorem dX15_seen_22 : decode cX15_seen 22 = .ok (.invokestatic 98, 3) := by decide +kernel
theorem dX15_seen_25 : decode cX15_seen 25 = .ok (.ifCond .eq 7, 3) := by decide +kernel
theorem dX15_seen_28 : decode cX15_seen 28 = .ok (.iconst 0, 1) := by decide +kernel
theorem dX15_seen_29 : decode cX15_seen 29 = .ok (.goto 4, 3) := by decide +kernel
theorem dX15_seen_32 : decode cX15_seen 32 = .ok (.iconst 1, 1) := by decide +kernel
theorem dX15_seen_33 : decode cX15_seen 33 = .ok (.invokevirtual 106, 3) := by decide +kernel
theorem dX15_seen_36 : decode cX15_seen 36 = .ok (.ifCond .eq 7, 3) := by decide +kernel
theorem dX15_seen_39 : decode cX15_seen 39 = .ok (.iconst 0, 1) := by decide +kernel
theorem dX15_seen_40 : decode cX15_seen 40 = .ok (.goto 14, 3) := by decide +kernel
theorem dX15_seen_43 : decode cX15_seen 43 = .ok (.aload_n 0, 1) := by decide +kernel
theorem dX15_seen_44 : decode cX15_seen 44 = .ok (.iload_n 1, 1) := by decide +kernel
theorem dX15_seen_45 : decode cX15_seen 45 = .ok (.aload_n 0, 1) := by decide +kernel
theorem dX15_seen_46 : decode cX15_seen 46 = .ok (.getfield 59, 3) := by decide +kernel
theorem dX15_seen_49 : decode cX15_seen 49 = .ok (.invokevirtual 434, 3) := by decide +kernel
theorem dX15_seen_52 : decode cX15_seen 52 = .ok (.iload_n 2, 1) := by decide +kernel
theorem dX15_seen_53 : decode cX15_seen 53 = .ok (.iaload, 1) := by decide +kernel
theorem dX15_seen_54 : decode cX15_seen 54 = .ok (.ireturn, 1) := by decide +kernel
theorem dX15_setTime_0 : decode cX15_setTime 0 = .ok (.aload_n 0, 1) := by decide +kernel
theorem dX15_setTime_1 : decode cX15_setTime 1 = .ok (.aload_n 0, 1) := by decide +kernel
theorem dX15_setTime_2 : decode cX15_setTime 2 = .ok (.iload_n 1, 1) := by decide +kernel
theorem dX15_setTime_3 : decode cX15_setTime 3 = .ok (.invokevirtual 283, 3) := by decide +kernel
theorem dX15_setTime_6 : decode cX15_setTime 6 = .ok (.ifCond .ne 7, 3) := by decide +kernel
theorem dX15_setTime_9 : decode cX15_setTime 9 = .ok (.iconst 1, 1) := by decide +kernel
theorem dX15_setTime_10 : decode cX15_setTime 10 = .ok (.goto 18, 3) := by decide +kernel
theorem dX15_setTime_13 : decode cX15_setTime 13 = .ok (.iload_n 2, 1) := by decide +kernel
theorem dX15_setTime_14 : decode cX15_setTime 14 = .ok (.iconst 1, 1) := by decide +kernel
theorem dX15_setTime_15 : decode cX15_setTime 15 = .ok (.bipush 99, 2) := by decide +kernel
theorem dX15_setTime_17 : decode cX15_setTime 17 = .ok (.invokestatic 98, 3) := by decide +kernel
theorem dX15_setTime_20 : decode cX15_setTime 20 = .ok (.ifCond .ne 7, 3) := by decide +kernel
theorem dX15_setTime_23 : decode cX15_setTime 23 = .ok (.iconst 2, 1) := by decide +kernel
theorem dX15_setTime_24 : decode cX15_setTime 24 = .ok (.goto 4, 3) := by decide +kernel
theorem dX15_setTime_27 : decode cX15_setTime 27 = .ok (.iconst 0, 1) := by decide +kernel
theorem dX15_setTime_28 : decode cX15_setTime 28 = .ok (.invokevirtual 106, 3) := by decide +kernel
theorem dX15_setTime_31 : decode cX15_setTime 31 = .ok (.ifCond .eq 5, 3) := by decide +kernel
theorem dX15_setTime_34 : decode cX15_setTime 34 = .ok (.iconst 0, 1) := by decide +kernel
theorem dX15_setTime_35 : decode cX15_setTime 35 = .ok (.ireturn, 1) := by decide +kernel
theorem dX15_setTime_36 : decode cX15_setTime 36 = .ok (.aload_n 0, 1) := by decide +kernel
theorem dX15_setTime_37 : decode cX15_setTime 37 = .ok (.getfield 32, 3) := by decide +kernel
theorem dX15_setTime_40 : decode cX15_setTime 40 = .ok (.iload_n 1, 1) := by decide +kernel
theorem dX15_setTime_41 : decode cX15_setTime 41 = .ok (.invokeinterface 143 2, 5) := by decide +kernel
theorem dX15_setTime_46 : decode cX15_setTime 46 = .ok (.checkcast 200, 3) := by decide +kernel
theorem dX15_setTime_49 : decode cX15_setTime 49 = .ok (.getfield 442, 3) := by decide +kernel
theorem dX15_setTime_52 : decode cX15_setTime 52 = .ok (.istore_n 3, 1) := by decide +kernel
theorem dX15_setTime_53 : decode cX15_setTime 53 = .ok (.aload_n 0, 1) := by decide +kernel
theorem dX15_setTime_54 : decode cX15_setTime 54 = .ok (.getfield 32, 3) := by decide +kernel
theorem dX15_setTime_57 : decode cX15_setTime 57 = .ok (.iload_n 1, 1) := by decide +kernel
theorem dX15_setTime_58 : decode cX15_setTime 58 = .ok (.invokeinterface 143 2, 5) := by decide +kernel
theorem dX15_setTime_63 : decode cX15_setTime 63 = .ok (.checkcast 200, 3) := by decide +kernel
theorem dX15_setTime_66 : decode cX15_setTime 66 = .ok (.iload_n 2, 1) := by decide +kernel
theorem dX15_setTime_67 : decode cX15_setTime 67 = .ok (.putfield 442, 3) := by decide +kernel
theorem dX15_setTime_70 : decode cX15_setTime 70 = .ok (.iload_n 3, 1) := by decide +kernel
theorem dX15_setTime_71 : decode cX15_setTime 71 = .ok (.ireturn, 1) := by decide +kernel
theorem dX15_shortWires_0 : decode cX15_shortWires 0 = .ok (.aload_n 0, 1) := by decide +kernel
theorem dX15_shortWires_1 : decode cX15_shortWires 1 = .ok (.aload_n 0, 1) := by decide +kernel
theorem dX15_shortWires_2 : decode cX15_shortWires 2 = .ok (.iload_n 1, 1) := by decide +kernel
theorem dX15_shortWires_3 : decode cX15_shortWires 3 = .ok (.invokevirtual 498, 3) := by decide +kernel
theorem dX15_shortWires_6 : decode cX15_shortWires 6 = .ok (.ifCond .eq 11, 3) := by decide +kernel
theorem dX15_shortWires_9 : decode cX15_shortWires 9 = .ok (.aload_n 0, 1) := by decide +kernel
theorem dX15_shortWires_10 : decode cX15_shortWires 10 = .ok (.iload_n 2, 1) := by decide +kernel
theorem dX15_shortWires_11 : decode cX15_shortWires 11 = .ok (.invokevirtual 498, 3) := by decide +kernel
theorem dX15_shortWires_14 : decode cX15_shortWires 14 = .ok (.ifCond .ne 7, 3) := by decide +kernel
theorem dX15_shortWires_17 : decode cX15_shortWires 17 = .ok (.iconst 1, 1) := by decide +kernel
theorem dX15_shortWires_18 : decode cX15_shortWires 18 = .ok (.goto 13, 3) := by decide +kernel
theorem dX15_shortWires_21 : decode cX15_shortWires 21 = .ok (.iload_n 1, 1) := by decide +kernel
theorem dX15_shortWires_22 : decode cX15_shortWires 22 = .ok (.iload_n 2, 1) := by decide +kernel
theorem dX15_shortWires_23 : decode cX15_shortWires 23 = .ok (.if_icmp .ne 7, 3) := by decide +kernel
theorem dX15_shortWires_26 : decode cX15_shortWires 26 = .ok (.iconst 2, 1) := by decide +kernel
theorem dX15_shortWires_27 : decode cX15_shortWires 27 = .ok (.goto 4, 3) := by decide +kernel
theorem dX15_shortWires_30 : decode cX15_shortWires 30 = .ok (.iconst 0, 1) := by decide +kernel
theorem dX15_shortWires_31 : decode cX15_shortWires 31 = .ok (.invokevirtual 106, 3) := by decide +kernel
theorem dX15_shortWires_34 : decode cX15_shortWires 34 = .ok (.ifCond .eq 5, 3) := by decide +kernel
theorem dX15_shortWires_37 : decode cX15_shortWires 37 = .ok (.iconst 0, 1) := by decide +kernel
theorem dX15_shortWires_38 : decode cX15_shortWires 38 = .ok (.ireturn, 1) := by decide +kernel
theorem dX15_shortWires_39 : decode cX15_shortWires 39 = .ok (.aload_n 0, 1) := by decide +kernel
theorem dX15_shortWires_40 : decode cX15_shortWires 40 = .ok (.getfield 80, 3) := by decide +kernel
theorem dX15_shortWires_43 : decode cX15_shortWires 43 = .ok (.iload_n 1, 1) := by decide +kernel
theorem dX15_shortWires_44 : decode cX15_shortWires 44 = .ok (.aaload, 1) := by decide +kernel
theorem dX15_shortWires_45 : decode cX15_shortWires 45 = .ok (.iload_n 2, 1) := by decide +kernel
theorem dX15_shortWires_46 : decode cX15_shortWires 46 = .ok (.iconst 1, 1) := by decide +kernel
theorem dX15_shortWires_47 : decode cX15_shortWires 47 = .ok (.bastore, 1) := by decide +kernel
theorem dX15_shortWires_48 : decode cX15_shortWires 48 = .ok (.aload_n 0, 1) := by decide +kernel
theorem dX15_shortWires_49 : decode cX15_shortWires 49 = .ok (.iload_n 1, 1) := by decide +kernel
theorem dX15_shortWires_50 : decode cX15_shortWires 50 = .ok (.iconst 1, 1) := by decide +kernel
theorem dX15_shortWires_51 : decode cX15_shortWires 51 = .ok (.invokevirtual 501, 3) := by decide +kernel
theorem dX15_shortWires_54 : decode cX15_shortWires 54 = .ok (.invokestatic 379, 3) := by decide +kernel
theorem dX15_shortWires_57 : decode cX15_shortWires 57 = .ok (.ireturn, 1) := by decide +kernel
theorem dX15_signature_0 : decode cX15_signature 0 = .ok (.aload_n 0, 1) := by decide +kernel
theorem dX15_signature_1 : decode cX15_signature 1 = .ok (.iload_n 1, 1) := by decide +kernel
theorem dX15_signature_2 : decode cX15_signature 2 = .ok (.iconst (-1), 1) := by decide +kernel
theorem dX15_signature_3 : decode cX15_signature 3 = .ok (.if_icmp .eq 15, 3) := by decide +kernel
theorem dX15_signature_6 : decode cX15_signature 6 = .ok (.aload_n 0, 1) := by decide +kernel
theorem dX15_signature_7 : decode cX15_signature 7 = .ok (.iload_n 1, 1) := by decide +kernel
theorem dX15_signature_8 : decode cX15_signature 8 = .ok (.invokevirtual 286, 3) := by decide +kernel
theorem dX15_signature_11 : decode cX15_signature 11 = .ok (.ifCond .ne 7, 3) := by decide +kernel
theorem dX15_signature_14 : decode cX15_signature 14 = .ok (.iconst 1, 1) := by decide +kernel
theorem dX15_signature_15 : decode cX15_signature 15 = .ok (.goto 32, 3) := by decide +kernel
theorem dX15_signature_18 : decode cX15_signature 18 = .ok (.iload_n 1, 1) := by decide +kernel
theorem dX15_signature_19 : decode cX15_signature 19 = .ok (.iconst (-1), 1) := by decide +kernel
theorem dX15_signature_20 : decode cX15_signature 20 = .ok (.if_icmp .eq 26, 3) := by decide +kernel
theorem dX15_signature_23 : decode cX15_signature 23 = .ok (.aload_n 0, 1) := by decide +kernel
theorem dX15_signature_24 : decode cX15_signature 24 = .ok (.getfield 26, 3) := by decide +kernel
theorem dX15_signature_27 : decode cX15_signature 27 = .ok (.iload_n 1, 1) := by decide +kernel
theorem dX15_signature_28 : decode cX15_signature 28 = .ok (.invokeinterface 143 2, 5) := by decide +kernel
theorem dX15_signature_33 : decode cX15_signature 33 = .ok (.checkcast 170, 3) := by decide +kernel
theorem dX15_signature_36 : decode cX15_signature 36 = .ok (.invokevirtual 238, 3) := by decide +kernel
theorem dX15_signature_39 : decode cX15_signature 39 = .ok (.ifCond .ne 7, 3) := by decide +kernel
theorem dX15_signature_42 : decode cX15_signature 42 = .ok (.iconst 2, 1) := by decide +kernel
theorem dX15_signature_43 : decode cX15_signature 43 = .ok (.goto 4, 3) := by decide +kernel
theorem dX15_signature_46 : decode cX15_signature 46 = .ok (.iconst 0, 1) := by decide +kernel
theorem dX15_signature_47 : decode cX15_signature 47 = .ok (.invokevirtual 106, 3) := by decide +kernel
theorem dX15_signature_50 : decode cX15_signature 50 = .ok (.ifCond .eq 5, 3) := by decide +kernel
theorem dX15_signature_53 : decode cX15_signature 53 = .ok (.iconst 0, 1) := by decide +kernel
theorem dX15_signature_54 : decode cX15_signature 54 = .ok (.ireturn, 1) := by decide +kernel
theorem dX15_signature_55 : decode cX15_signature 55 = .ok (.aload_n 0, 1) := by decide +kernel
theorem dX15_signature_56 : decode cX15_signature 56 = .ok (.iload_n 1, 1) := by decide +kernel
theorem dX15_signature_57 : decode cX15_signature 57 = .ok (.iconst (-1), 1) := by decide +kernel
theorem dX15_signature_58 : decode cX15_signature 58 = .ok (.if_icmp .ne 7, 3) := by decide +kernel
theorem dX15_signature_61 : decode cX15_signature 61 = .ok (.aconst_null, 1) := by decide +kernel
theorem dX15_signature_62 : decode cX15_signature 62 = .ok (.goto 16, 3) := by decide +kernel
theorem dX15_signature_65 : decode cX15_signature 65 = .ok (.aload_n 0, 1) := by decide +kernel
theorem dX15_signature_66 : decode cX15_signature 66 = .ok (.getfield 26, 3) := by decide +kernel
theorem dX15_signature_69 : decode cX15_signature 69 = .ok (.iload_n 1, 1) := by decide +kernel
theorem dX15_signature_70 : decode cX15_signature 70 = .ok (.invokeinterface 143 2, 5) := by decide +kernel
theorem dX15_signature_75 : decode cX15_signature 75 = .ok (.checkcast 170, 3) := by decide +kernel
theorem dX15_signature_78 : decode cX15_signature 78 = .ok (.invokevirtual 389, 3) := by decide +kernel
theorem dX15_signature_81 : decode cX15_signature 81 = .ok (.ireturn, 1) := by decide +kernel
theorem dX15_slow_0 : decode cX15_slow 0 = .ok (.aload_n 0, 1) := by decide +kernel
theorem dX15_slow_1 : decode cX15_slow 1 = .ok (.aload_n 0, 1) := by decide +kernel
theorem dX15_slow_2 : decode cX15_slow 2 = .ok (.iload_n 1, 1) := by decide +kernel
theorem dX15_slow_3 : decode cX15_slow 3 = .ok (.invokevirtual 140, 3) := by decide +kernel
theorem dX15_slow_6 : decode cX15_slow 6 = .ok (.ifCond .ne 7, 3) := by decide +kernel
theorem dX15_slow_9 : decode cX15_slow 9 = .ok (.iconst 1, 1) := by decide +kernel
theorem dX15_slow_10 : decode cX15_slow 10 = .ok (.goto 28, 3) := by decide +kernel
theorem dX15_slow_13 : decode cX15_slow 13 = .ok (.aload_n 0, 1) := by decide +kernel
theorem dX15_slow_14 : decode cX15_slow 14 = .ok (.getfield 102, 3) := by decide +kernel
theorem dX15_slow_17 : decode cX15_slow 17 = .ok (.ifCond .ne 7, 3) := by decide +kernel
theorem dX15_slow_20 : decode cX15_slow 20 = .ok (.iconst 2, 1) := by decide +kernel
theorem dX15_slow_21 : decode cX15_slow 21 = .ok (.goto 17, 3) := by decide +kernel
theorem dX15_slow_24 : decode cX15_slow 24 = .ok (.aload_n 0, 1) := by decide +kernel
theorem dX15_slow_25 : decode cX15_slow 25 = .ok (.getfield 331, 3) := by decide +kernel
theorem dX15_slow_28 : decode cX15_slow 28 = .ok (.bipush 8, 2) := by decide +kernel
theorem dX15_slow_30 : decode cX15_slow 30 = .ok (.if_icmp .ne 7, 3) := by decide +kernel
theorem dX15_slow_33 : decode cX15_slow 33 = .ok (.iconst 3, 1) := by decide +kernel
theorem dX15_slow_34 : decode cX15_slow 34 = .ok (.goto 4, 3) := by decide +kernel
theorem dX15_slow_37 : decode cX15_slow 37 = .ok (.iconst 0, 1) := by decide +kernel
theorem dX15_slow_38 : decode cX15_slow 38 = .ok (.invokevirtual 106, 3) := by decide +kernel
theorem dX15_slow_41 : decode cX15_slow 41 = .ok (.ifCond .eq 5, 3) := by decide +kernel
theorem dX15_slow_44 : decode cX15_slow 44 = .ok (.iconst 0, 1) := by decide +kernel
theorem dX15_slow_45 : decode cX15_slow 45 = .ok (.ireturn, 1) := by decide +kernel
theorem dX15_slow_46 : decode cX15_slow 46 = .ok (.aload_n 0, 1) := by decide +kernel
theorem dX15_slow_47 : decode cX15_slow 47 = .ok (.dup, 1) := by decide +kernel
theorem dX15_slow_48 : decode cX15_slow 48 = .ok (.getfield 331, 3) := by decide +kernel
theorem dX15_slow_51 : decode cX15_slow 51 = .ok (.iconst 1, 1) := by decide +kernel
theorem dX15_slow_52 : decode cX15_slow 52 = .ok (.iadd, 1) := by decide +kernel
theorem dX15_slow_53 : decode cX15_slow 53 = .ok (.putfield 331, 3) := by decide +kernel
theorem dX15_slow_56 : decode cX15_slow 56 = .ok (.aload_n 0, 1) := by decide +kernel
theorem dX15_slow_57 : decode cX15_slow 57 = .ok (.getfield 26, 3) := by decide +kernel
theorem dX15_slow_60 : decode cX15_slow 60 = .ok (.new 170, 3) := by decide +kernel
theorem dX15_slow_63 : decode cX15_slow 63 = .ok (.dup, 1) := by decide +kernel
theorem dX15_slow_64 : decode cX15_slow 64 = .ok (.iload_n 2, 1) := by decide +kernel
theorem dX15_slow_65 : decode cX15_slow 65 = .ok (.ifCond .eq 8, 3) := by decide +kernel
theorem dX15_slow_68 : decode cX15_slow 68 = .ok (.bipush 114, 2) := by decide +kernel
theorem dX15_slow_70 : decode cX15_slow 70 = .ok (.goto 5, 3) := by decide +kernel
theorem dX15_slow_73 : decode cX15_slow 73 = .ok (.bipush 108, 2) := by decide +kernel
theorem dX15_slow_75 : decode cX15_slow 75 = .ok (.iload_n 1, 1) := by decide +kernel
theorem dX15_slow_76 : decode cX15_slow 76 = .ok (.iconst (-1), 1) := by decide +kernel
theorem dX15_slow_77 : decode cX15_slow 77 = .ok (.iconst 0, 1) := by decide +kernel
theorem dX15_slow_78 : decode cX15_slow 78 = .ok (.invokespecial 172, 3) := by decide +kernel
theorem dX15_slow_81 : decode cX15_slow 81 = .ok (.invokeinterface 124 2, 5) := by decide +kernel
theorem dX15_slow_86 : decode cX15_slow 86 = .ok (.pop, 1) := by decide +kernel
theorem dX15_slow_87 : decode cX15_slow 87 = .ok (.aload_n 0, 1) := by decide +kernel
theorem dX15_slow_88 : decode cX15_slow 88 = .ok (.getfield 26, 3) := by decide +kernel
theorem dX15_slow_91 : decode cX15_slow 91 = .ok (.invokeinterface 92 1, 5) := by decide +kernel
theorem dX15_slow_96 : decode cX15_slow 96 = .ok (.iconst 1, 1) := by decide +kernel
theorem dX15_slow_97 : decode cX15_slow 97 = .ok (.isub, 1) := by decide +kernel
theorem dX15_slow_98 : decode cX15_slow 98 = .ok (.ireturn, 1) := by decide +kernel
theorem dX15_suspects_0 : decode cX15_suspects 0 = .ok (.aload_n 0, 1) := by decide +kernel
theorem dX15_suspects_1 : decode cX15_suspects 1 = .ok (.iconst 0, 1) := by decide +kernel
theorem dX15_suspects_2 : decode cX15_suspects 2 = .ok (.putfield 1, 3) := by decide +kernel
theorem dX15_suspects_5 : decode cX15_suspects 5 = .ok (.iconst 0, 1) := by decide +kernel
theorem dX15_suspects_6 : decode cX15_suspects 6 = .ok (.istore_n 1, 1) := by decide +kernel
theorem dX15_suspects_7 : decode cX15_suspects 7 = .ok (.iconst 0, 1) := by decide +kernel
theorem dX15_suspects_8 : decode cX15_suspects 8 = .ok (.istore_n 2, 1) := by decide +kernel
theorem dX15_suspects_9 : decode cX15_suspects 9 = .ok (.iload_n 2, 1) := by decide +kernel
theorem dX15_suspects_10 : decode cX15_suspects 10 = .ok (.aload_n 0, 1) := by decide +kernel
theorem dX15_suspects_11 : decode cX15_suspects 11 = .ok (.getfield 23, 3) := by decide +kernel
theorem dX15_suspects_14 : decode cX15_suspects 14 = .ok (.invokeinterface 92 1, 5) := by decide +kernel
theorem dX15_suspects_19 : decode cX15_suspects 19 = .ok (.if_icmp .ge 79, 3) := by decide +kernel
theorem dX15_suspects_22 : decode cX15_suspects 22 = .ok (.aload_n 0, 1) := by decide +kernel
theorem dX15_suspects_23 : decode cX15_suspects 23 = .ok (.getfield 59, 3) := by decide +kernel
theorem dX15_suspects_26 : decode cX15_suspects 26 = .ok (.iconst (-1), 1) := by decide +kernel
theorem dX15_suspects_27 : decode cX15_suspects 27 = .ok (.if_icmp .eq 71, 3) := by decide +kernel
theorem dX15_suspects_30 : decode cX15_suspects 30 = .ok (.iconst 1, 1) := by decide +kernel
theorem dX15_suspects_31 : decode cX15_suspects 31 = .ok (.istore_n 3, 1) := by decide +kernel
theorem dX15_suspects_32 : decode cX15_suspects 32 = .ok (.iconst 0, 1) := by decide +kernel
theorem dX15_suspects_33 : decode cX15_suspects 33 = .ok (.istore 4, 2) := by decide +kernel
theorem dX15_suspects_35 : decode cX15_suspects 35 = .ok (.iload 4, 2) := by decide +kernel
theorem dX15_suspects_37 : decode cX15_suspects 37 = .ok (.aload_n 0, 1) := by decide +kernel
theorem dX15_suspects_38 : decode cX15_suspects 38 = .ok (.getfield 32, 3) := by decide +kernel
theorem dX15_suspects_41 : decode cX15_suspects 41 = .ok (.invokeinterface 92 1, 5) := by decide +kernel
theorem dX15_suspects_46 : decode cX15_suspects 46 = .ok (.if_icmp .ge 32, 3) := by decide +kernel
theorem dX15_suspects_49 : decode cX15_suspects 49 = .ok (.iload_n 3, 1) := by decide +kernel
theorem dX15_suspects_50 : decode cX15_suspects 50 = .ok (.aload_n 0, 1) := by decide +kernel
theorem dX15_suspects_51 : decode cX15_suspects 51 = .ok (.iload 4, 2) := by decide +kernel
theorem dX15_suspects_53 : decode cX15_suspects 53 = .ok (.iload_n 2, 1) := by decide +kernel
theorem dX15_suspects_54 : decode cX15_suspects 54 = .ok (.invokevirtual 434, 3) := by decide +kernel
theorem dX15_suspects_57 : decode cX15_suspects 57 = .ok (.aload_n 0, 1) := by decide +kernel
theorem dX15_suspects_58 : decode cX15_suspects 58 = .ok (.iload 4, 2) := by decide +kernel
theorem dX15_suspects_60 : decode cX15_suspects 60 = .ok (.aload_n 0, 1) := by decide +kernel
theorem dX15_suspects_61 : decode cX15_suspects 61 = .ok (.getfield 59, 3) := by decide +kernel
theorem dX15_suspects_64 : decode cX15_suspects 64 = .ok (.invokevirtual 434, 3) := by decide +kernel
theorem dX15_suspects_67 : decode cX15_suspects 67 = .ok (.invokestatic 438, 3) := by decide +kernel
theorem dX15_suspects_70 : decode cX15_suspects 70 = .ok (.iand, 1) := by decide +kernel
theorem dX15_suspects_71 : decode cX15_suspects 71 = .ok (.istore_n 3, 1) := by decide +kernel
theorem dX15_suspects_72 : decode cX15_suspects 72 = .ok (.iinc 4 1, 3) := by decide +kernel
theorem dX15_suspects_75 : decode cX15_suspects 75 = .ok (.goto (-40), 3) := by decide +kernel
theorem dX15_suspects_78 : decode cX15_suspects 78 = .ok (.iload_n 1, 1) := by decide +kernel
theorem dX15_suspects_79 : decode cX15_suspects 79 = .ok (.iload_n 3, 1) := by decide +kernel
theorem dX15_suspects_80 : decode cX15_suspects 80 = .ok (.ifCond .eq 9, 3) := by decide +kernel
theorem dX15_suspects_83 : decode cX15_suspects 83 = .ok (.iconst 1, 1) := by decide +kernel
theorem dX15_suspects_84 : decode cX15_suspects 84 = .ok (.iload_n 2, 1) := by decide +kernel
theorem dX15_suspects_85 : decode cX15_suspects 85 = .ok (.ishl, 1) := by decide +kernel
theorem dX15_suspects_86 : decode cX15_suspects 86 = .ok (.goto 4, 3) := by decide +kernel
theorem dX15_suspects_89 : decode cX15_suspects 89 = .ok (.iconst 0, 1) := by decide +kernel
theorem dX15_suspects_90 : decode cX15_suspects 90 = .ok (.ior, 1) := by decide +kernel
theorem dX15_suspects_91 : decode cX15_suspects 91 = .ok (.istore_n 1, 1) := by decide +kernel
theorem dX15_suspects_92 : decode cX15_suspects 92 = .ok (.iinc 2 1, 3) := by decide +kernel
theorem dX15_suspects_95 : decode cX15_suspects 95 = .ok (.goto (-86), 3) := by decide +kernel
theorem dX15_suspects_98 : decode cX15_suspects 98 = .ok (.iload_n 1, 1) := by decide +kernel
theorem dX15_suspects_99 : decode cX15_suspects 99 = .ok (.ireturn, 1) := by decide +kernel
theorem dX15_tally_0 : decode cX15_tally 0 = .ok (.aload_n 0, 1) := by decide +kernel
theorem dX15_tally_1 : decode cX15_tally 1 = .ok (.iload_n 1, 1) := by decide +kernel
theorem dX15_tally_2 : decode cX15_tally 2 = .ok (.invokevirtual 393, 3) := by decide +kernel
theorem dX15_tally_5 : decode cX15_tally 5 = .ok (.ifCond .eq 5, 3) := by decide +kernel
theorem dX15_tally_8 : decode cX15_tally 8 = .ok (.iconst 0, 1) := by decide +kernel
theorem dX15_tally_9 : decode cX15_tally 9 = .ok (.ireturn, 1) := by decide +kernel
theorem dX15_tally_10 : decode cX15_tally 10 = .ok (.aload_n 0, 1) := by decide +kernel
theorem dX15_tally_11 : decode cX15_tally 11 = .ok (.invokevirtual 314, 3) := by decide +kernel
theorem dX15_tally_14 : decode cX15_tally 14 = .ok (.astore_n 2, 1) := by decide +kernel
theorem dX15_tally_15 : decode cX15_tally 15 = .ok (.aload_n 0, 1) := by decide +kernel
theorem dX15_tally_16 : decode cX15_tally 16 = .ok (.aload_n 2, 1) := by decide +kernel
theorem dX15_tally_17 : decode cX15_tally 17 = .ok (.iload_n 1, 1) := by decide +kernel
theorem dX15_tally_18 : decode cX15_tally 18 = .ok (.iaload, 1) := by decide +kernel
theorem dX15_tally_19 : decode cX15_tally 19 = .ok (.aload_n 2, 1) := by decide +kernel
theorem dX15_tally_20 : decode cX15_tally 20 = .ok (.invokevirtual 424, 3) := by decide +kernel
theorem dX15_tally_23 : decode cX15_tally 23 = .ok (.ireturn, 1) := by decide +kernel
theorem dX15_testPoint_0 : decode cX15_testPoint 0 = .ok (.aload_n 0, 1) := by decide +kernel
theorem dX15_testPoint_1 : decode cX15_testPoint 1 = .ok (.aload_n 0, 1) := by decide +kernel
theorem dX15_testPoint_2 : decode cX15_testPoint 2 = .ok (.iload_n 1, 1) := by decide +kernel
theorem dX15_testPoint_3 : decode cX15_testPoint 3 = .ok (.invokevirtual 140, 3) := by decide +kernel
theorem dX15_testPoint_6 : decode cX15_testPoint 6 = .ok (.ifCond .ne 7, 3) := by decide +kernel
theorem dX15_testPoint_9 : decode cX15_testPoint 9 = .ok (.iconst 1, 1) := by decide +kernel
theorem dX15_testPoint_10 : decode cX15_testPoint 10 = .ok (.goto 15, 3) := by decide +kernel
theorem dX15_testPoint_13 : decode cX15_testPoint 13 = .ok (.aload_n 0, 1) := by decide +kernel
theorem dX15_testPoint_14 : decode cX15_testPoint 14 = .ok (.getfield 102, 3) := by decide +kernel
theorem dX15_testPoint_17 : decode cX15_testPoint 17 = .ok (.ifCond .ne 7, 3) := by decide +kernel
theorem dX15_testPoint_20 : decode cX15_testPoint 20 = .ok (.iconst 2, 1) := by decide +kernel
theorem dX15_testPoint_21 : decode cX15_testPoint 21 = .ok (.goto 4, 3) := by decide +kernel
theorem dX15_testPoint_24 : decode cX15_testPoint 24 = .ok (.iconst 0, 1) := by decide +kernel
theorem dX15_testPoint_25 : decode cX15_testPoint 25 = .ok (.invokevirtual 106, 3) := by decide +kernel
theorem dX15_testPoint_28 : decode cX15_testPoint 28 = .ok (.ifCond .eq 5, 3) := by decide +kernel
theorem dX15_testPoint_31 : decode cX15_testPoint 31 = .ok (.iconst 0, 1) := by decide +kernel
theorem dX15_testPoint_32 : decode cX15_testPoint 32 = .ok (.ireturn, 1) := by decide +kernel
theorem dX15_testPoint_33 : decode cX15_testPoint 33 = .ok (.aload_n 0, 1) := by decide +kernel
theorem dX15_testPoint_34 : decode cX15_testPoint 34 = .ok (.getfield 16, 3) := by decide +kernel
theorem dX15_testPoint_37 : decode cX15_testPoint 37 = .ok (.iload_n 1, 1) := by decide +kernel
theorem dX15_testPoint_38 : decode cX15_testPoint 38 = .ok (.invokeinterface 143 2, 5) := by decide +kernel
theorem dX15_testPoint_43 : decode cX15_testPoint 43 = .ok (.checkcast 110, 3) := by decide +kernel
theorem dX15_testPoint_46 : decode cX15_testPoint 46 = .ok (.iconst 1, 1) := by decide +kernel
theorem dX15_testPoint_47 : decode cX15_testPoint 47 = .ok (.putfield 191, 3) := by decide +kernel
theorem dX15_testPoint_50 : decode cX15_testPoint 50 = .ok (.iconst 0, 1) := by decide +kernel
theorem dX15_testPoint_51 : decode cX15_testPoint 51 = .ok (.istore_n 2, 1) := by decide +kernel
theorem dX15_testPoint_52 : decode cX15_testPoint 52 = .ok (.iconst 0, 1) := by decide +kernel
theorem dX15_testPoint_53 : decode cX15_testPoint 53 = .ok (.istore_n 3, 1) := by decide +kernel
theorem dX15_testPoint_54 : decode cX15_testPoint 54 = .ok (.iload_n 3, 1) := by decide +kernel
theorem dX15_testPoint_55 : decode cX15_testPoint 55 = .ok (.aload_n 0, 1) := by decide +kernel
theorem dX15_testPoint_56 : decode cX15_testPoint 56 = .ok (.getfield 16, 3) := by decide +kernel
theorem dX15_testPoint_59 : decode cX15_testPoint 59 = .ok (.invokeinterface 92 1, 5) := by decide +kernel
theorem dX15_testPoint_64 : decode cX15_testPoint 64 = .ok (.if_icmp .ge 25, 3) := by decide +kernel
theorem dX15_testPoint_67 : decode cX15_testPoint 67 = .ok (.iload_n 2, 1) := by decide +kernel
theorem dX15_testPoint_68 : decode cX15_testPoint 68 = .ok (.aload_n 0, 1) := by decide +kernel
theorem dX15_testPoint_69 : decode cX15_testPoint 69 = .ok (.iload_n 3, 1) := by decide +kernel
theorem dX15_testPoint_70 : decode cX15_testPoint 70 = .ok (.invokevirtual 197, 3) := by decide +kernel
theorem dX15_testPoint_73 : decode cX15_testPoint 73 = .ok (.ifCond .eq 7, 3) := by decide +kernel
theorem dX15_testPoint_76 : decode cX15_testPoint 76 = .ok (.iconst 1, 1) := by decide +kernel
theorem dX15_testPoint_77 : decode cX15_testPoint 77 = .ok (.goto 4, 3) := by decide +kernel
theorem dX15_testPoint_80 : decode cX15_testPoint 80 = .ok (.iconst 0, 1) := by decide +kernel
theorem dX15_testPoint_81 : decode cX15_testPoint 81 = .ok (.iadd, 1) := by decide +kernel
theorem dX15_testPoint_82 : decode cX15_testPoint 82 = .ok (.istore_n 2, 1) := by decide +kernel
theorem dX15_testPoint_83 : decode cX15_testPoint 83 = .ok (.iinc 3 1, 3) := by decide +kernel
theorem dX15_testPoint_86 : decode cX15_testPoint 86 = .ok (.goto (-32), 3) := by decide +kernel
theorem dX15_testPoint_89 : decode cX15_testPoint 89 = .ok (.iload_n 2, 1) := by decide +kernel
theorem dX15_testPoint_90 : decode cX15_testPoint 90 = .ok (.ireturn, 1) := by decide +kernel
theorem dX15_thrown_0 : decode cX15_thrown 0 = .ok (.aload_n 0, 1) := by decide +kernel
theorem dX15_thrown_1 : decode cX15_thrown 1 = .ok (.getfield 1, 3) := by decide +kernel
theorem dX15_thrown_4 : decode cX15_thrown 4 = .ok (.ireturn, 1) := by decide +kernel
theorem dX15_tie_0 : decode cX15_tie 0 = .ok (.aload_n 0, 1) := by decide +kernel
theorem dX15_tie_1 : decode cX15_tie 1 = .ok (.aload_n 0, 1) := by decide +kernel
theorem dX15_tie_2 : decode cX15_tie 2 = .ok (.iload_n 1, 1) := by decide +kernel
theorem dX15_tie_3 : decode cX15_tie 3 = .ok (.invokevirtual 286, 3) := by decide +kernel
theorem dX15_tie_6 : decode cX15_tie 6 = .ok (.ifCond .ne 7, 3) := by decide +kernel
theorem dX15_tie_9 : decode cX15_tie 9 = .ok (.iconst 1, 1) := by decide +kernel
theorem dX15_tie_10 : decode cX15_tie 10 = .ok (.goto 47, 3) := by decide +kernel
theorem dX15_tie_13 : decode cX15_tie 13 = .ok (.aload_n 0, 1) := by decide +kernel
theorem dX15_tie_14 : decode cX15_tie 14 = .ok (.getfield 26, 3) := by decide +kernel
theorem dX15_tie_17 : decode cX15_tie 17 = .ok (.iload_n 1, 1) := by decide +kernel
theorem dX15_tie_18 : decode cX15_tie 18 = .ok (.invokeinterface 143 2, 5) := by decide +kernel
theorem dX15_tie_23 : decode cX15_tie 23 = .ok (.checkcast 170, 3) := by decide +kernel
theorem dX15_tie_26 : decode cX15_tie 26 = .ok (.invokevirtual 238, 3) := by decide +kernel
theorem dX15_tie_29 : decode cX15_tie 29 = .ok (.ifCond .eq 23, 3) := by decide +kernel
theorem dX15_tie_32 : decode cX15_tie 32 = .ok (.aload_n 0, 1) := by decide +kernel
theorem dX15_tie_33 : decode cX15_tie 33 = .ok (.getfield 26, 3) := by decide +kernel
theorem dX15_tie_36 : decode cX15_tie 36 = .ok (.iload_n 1, 1) := by decide +kernel
theorem dX15_tie_37 : decode cX15_tie 37 = .ok (.invokeinterface 143 2, 5) := by decide +kernel
theorem dX15_tie_42 : decode cX15_tie 42 = .ok (.checkcast 170, 3) := by decide +kernel
theorem dX15_tie_45 : decode cX15_tie 45 = .ok (.getfield 229, 3) := by decide +kernel
theorem dX15_tie_48 : decode cX15_tie 48 = .ok (.iconst (-1), 1) := by decide +kernel
theorem dX15_tie_49 : decode cX15_tie 49 = .ok (.if_icmp .eq 7, 3) := by decide +kernel
theorem dX15_tie_52 : decode cX15_tie 52 = .ok (.iconst 2, 1) := by decide +kernel
theorem dX15_tie_53 : decode cX15_tie 53 = .ok (.goto 4, 3) := by decide +kernel
theorem dX15_tie_56 : decode cX15_tie 56 = .ok (.iconst 0, 1) := by decide +kernel
theorem dX15_tie_57 : decode cX15_tie 57 = .ok (.invokevirtual 106, 3) := by decide +kernel
theorem dX15_tie_60 : decode cX15_tie 60 = .ok (.ifCond .eq 5, 3) := by decide +kernel
theorem dX15_tie_63 : decode cX15_tie 63 = .ok (.iconst 0, 1) := by decide +kernel
theorem dX15_tie_64 : decode cX15_tie 64 = .ok (.ireturn, 1) := by decide +kernel
theorem dX15_tie_65 : decode cX15_tie 65 = .ok (.aload_n 0, 1) := by decide +kernel
theorem dX15_tie_66 : decode cX15_tie 66 = .ok (.getfield 26, 3) := by decide +kernel
theorem dX15_tie_69 : decode cX15_tie 69 = .ok (.iload_n 1, 1) := by decide +kernel
theorem dX15_tie_70 : decode cX15_tie 70 = .ok (.invokeinterface 143 2, 5) := by decide +kernel
theorem dX15_tie_75 : decode cX15_tie 75 = .ok (.checkcast 170, 3) := by decide +kernel
theorem dX15_tie_78 : decode cX15_tie 78 = .ok (.astore_n 2, 1) := by decide +kernel
theorem dX15_tie_79 : decode cX15_tie 79 = .ok (.aload_n 0, 1) := by decide +kernel
theorem dX15_tie_80 : decode cX15_tie 80 = .ok (.aload_n 0, 1) := by decide +kernel
theorem dX15_tie_81 : decode cX15_tie 81 = .ok (.getfield 16, 3) := by decide +kernel
theorem dX15_tie_84 : decode cX15_tie 84 = .ok (.aload_n 2, 1) := by decide +kernel
theorem dX15_tie_85 : decode cX15_tie 85 = .ok (.getfield 232, 3) := by decide +kernel
theorem dX15_tie_88 : decode cX15_tie 88 = .ok (.invokeinterface 143 2, 5) := by decide +kernel
theorem dX15_tie_93 : decode cX15_tie 93 = .ok (.checkcast 110, 3) := by decide +kernel
theorem dX15_tie_96 : decode cX15_tie 96 = .ok (.getfield 226, 3) := by decide +kernel
theorem dX15_tie_99 : decode cX15_tie 99 = .ok (.iconst (-1), 1) := by decide +kernel
theorem dX15_tie_100 : decode cX15_tie 100 = .ok (.if_icmp .ne 11, 3) := by decide +kernel
theorem dX15_tie_103 : decode cX15_tie 103 = .ok (.aload_n 0, 1) := by decide +kernel
theorem dX15_tie_104 : decode cX15_tie 104 = .ok (.aload_n 2, 1) := by decide +kernel
theorem dX15_tie_105 : decode cX15_tie 105 = .ok (.invokevirtual 356, 3) := by decide +kernel
theorem dX15_tie_108 : decode cX15_tie 108 = .ok (.ifCond .le 7, 3) := by decide +kernel
theorem dX15_tie_111 : decode cX15_tie 111 = .ok (.iconst 3, 1) := by decide +kernel
theorem dX15_tie_112 : decode cX15_tie 112 = .ok (.goto 4, 3) := by decide +kernel
theorem dX15_tie_115 : decode cX15_tie 115 = .ok (.iconst 0, 1) := by decide +kernel
theorem dX15_tie_116 : decode cX15_tie 116 = .ok (.invokevirtual 106, 3) := by decide +kernel
theorem dX15_tie_119 : decode cX15_tie 119 = .ok (.ifCond .eq 5, 3) := by decide +kernel
theorem dX15_tie_122 : decode cX15_tie 122 = .ok (.iconst 0, 1) := by decide +kernel
theorem dX15_tie_123 : decode cX15_tie 123 = .ok (.ireturn, 1) := by decide +kernel
theorem dX15_tie_124 : decode cX15_tie 124 = .ok (.aload_n 0, 1) := by decide +kernel
theorem dX15_tie_125 : decode cX15_tie 125 = .ok (.getfield 16, 3) := by decide +kernel
theorem dX15_tie_128 : decode cX15_tie 128 = .ok (.aload_n 2, 1) := by decide +kernel
theorem dX15_tie_129 : decode cX15_tie 129 = .ok (.getfield 232, 3) := by decide +kernel
theorem dX15_tie_132 : decode cX15_tie 132 = .ok (.invokeinterface 143 2, 5) := by decide +kernel
theorem dX15_tie_137 : decode cX15_tie 137 = .ok (.checkcast 110, 3) := by decide +kernel
theorem dX15_tie_140 : decode cX15_tie 140 = .ok (.aload_n 2, 1) := by decide +kernel
theorem dX15_tie_141 : decode cX15_tie 141 = .ok (.getfield 235, 3) := by decide +kernel
theorem dX15_tie_144 : decode cX15_tie 144 = .ok (.putfield 226, 3) := by decide +kernel
theorem dX15_tie_147 : decode cX15_tie 147 = .ok (.iconst 0, 1) := by decide +kernel
theorem dX15_tie_148 : decode cX15_tie 148 = .ok (.istore_n 3, 1) := by decide +kernel
theorem dX15_tie_149 : decode cX15_tie 149 = .ok (.aload_n 0, 1) := by decide +kernel
theorem dX15_tie_150 : decode cX15_tie 150 = .ok (.getfield 16, 3) := by decide +kernel
theorem dX15_tie_153 : decode cX15_tie 153 = .ok (.invokeinterface 156 1, 5) := by decide +kernel
theorem dX15_tie_158 : decode cX15_tie 158 = .ok (.astore 4, 2) := by decide +kernel
theorem dX15_tie_160 : decode cX15_tie 160 = .ok (.aload 4, 2) := by decide +kernel
theorem dX15_tie_162 : decode cX15_tie 162 = .ok (.invokeinterface 160 1, 5) := by decide +kernel
theorem dX15_tie_167 : decode cX15_tie 167 = .ok (.ifCond .eq 35, 3) := by decide +kernel
theorem dX15_tie_170 : decode cX15_tie 170 = .ok (.aload 4, 2) := by decide +kernel
theorem dX15_tie_172 : decode cX15_tie 172 = .ok (.invokeinterface 166 1, 5) := by decide +kernel
theorem dX15_tie_177 : decode cX15_tie 177 = .ok (.checkcast 110, 3) := by decide +kernel
theorem dX15_tie_180 : decode cX15_tie 180 = .ok (.astore 5, 2) := by decide +kernel
theorem dX15_tie_182 : decode cX15_tie 182 = .ok (.iload_n 3, 1) := by decide +kernel
theorem dX15_tie_183 : decode cX15_tie 183 = .ok (.aload 5, 2) := by decide +kernel
theorem dX15_tie_185 : decode cX15_tie 185 = .ok (.getfield 226, 3) := by decide +kernel
theorem dX15_tie_188 : decode cX15_tie 188 = .ok (.iconst (-1), 1) := by decide +kernel
theorem dX15_tie_189 : decode cX15_tie 189 = .ok (.if_icmp .eq 7, 3) := by decide +kernel
theorem dX15_tie_192 : decode cX15_tie 192 = .ok (.iconst 1, 1) := by decide +kernel
theorem dX15_tie_193 : decode cX15_tie 193 = .ok (.goto 4, 3) := by decide +kernel
theorem dX15_tie_196 : decode cX15_tie 196 = .ok (.iconst 0, 1) := by decide +kernel
theorem dX15_tie_197 : decode cX15_tie 197 = .ok (.iadd, 1) := by decide +kernel
theorem dX15_tie_198 : decode cX15_tie 198 = .ok (.istore_n 3, 1) := by decide +kernel
theorem dX15_tie_199 : decode cX15_tie 199 = .ok (.goto (-39), 3) := by decide +kernel
theorem dX15_tie_202 : decode cX15_tie 202 = .ok (.iload_n 3, 1) := by decide +kernel
theorem dX15_tie_203 : decode cX15_tie 203 = .ok (.ireturn, 1) := by decide +kernel
theorem dX15_turnAbout_0 : decode cX15_turnAbout 0 = .ok (.aload_n 0, 1) := by decide +kernel
theorem dX15_turnAbout_1 : decode cX15_turnAbout 1 = .ok (.iconst 0, 1) := by decide +kernel
theorem dX15_turnAbout_2 : decode cX15_turnAbout 2 = .ok (.putfield 1, 3) := by decide +kernel
theorem dX15_turnAbout_5 : decode cX15_turnAbout 5 = .ok (.aload_n 0, 1) := by decide +kernel
theorem dX15_turnAbout_6 : decode cX15_turnAbout 6 = .ok (.invokevirtual 318, 3) := by decide +kernel
theorem dX15_turnAbout_9 : decode cX15_turnAbout 9 = .ok (.astore_n 1, 1) := by decide +kernel
theorem dX15_turnAbout_10 : decode cX15_turnAbout 10 = .ok (.lconst 0, 1) := by decide +kernel
theorem dX15_turnAbout_11 : decode cX15_turnAbout 11 = .ok (.lstore_n 2, 1) := by decide +kernel
theorem dX15_turnAbout_12 : decode cX15_turnAbout 12 = .ok (.aload_n 1, 1) := by decide +kernel
theorem dX15_turnAbout_13 : decode cX15_turnAbout 13 = .ok (.invokeinterface 92 1, 5) := by decide +kernel
theorem dX15_turnAbout_18 : decode cX15_turnAbout 18 = .ok (.newarray .long, 2) := by decide +kernel
theorem dX15_turnAbout_20 : decode cX15_turnAbout 20 = .ok (.astore 4, 2) := by decide +kernel
theorem dX15_turnAbout_22 : decode cX15_turnAbout 22 = .ok (.iconst 0, 1) := by decide +kernel
theorem dX15_turnAbout_23 : decode cX15_turnAbout 23 = .ok (.istore 5, 2) := by decide +kernel
theorem dX15_turnAbout_25 : decode cX15_turnAbout 25 = .ok (.iload 5, 2) := by decide +kernel
theorem dX15_turnAbout_27 : decode cX15_turnAbout 27 = .ok (.aload 4, 2) := by decide +kernel
theorem dX15_turnAbout_29 : decode cX15_turnAbout 29 = .ok (.arraylength, 1) := by decide +kernel
theorem dX15_turnAbout_30 : decode cX15_turnAbout 30 = .ok (.if_icmp .ge 34, 3) := by decide +kernel
theorem dX15_turnAbout_33 : decode cX15_turnAbout 33 = .ok (.aload 4, 2) := by decide +kernel
theorem dX15_turnAbout_35 : decode cX15_turnAbout 35 = .ok (.iload 5, 2) := by decide +kernel
theorem dX15_turnAbout_37 : decode cX15_turnAbout 37 = .ok (.aload_n 0, 1) := by decide +kernel
theorem dX15_turnAbout_38 : decode cX15_turnAbout 38 = .ok (.aload_n 1, 1) := by decide +kernel
theorem dX15_turnAbout_39 : decode cX15_turnAbout 39 = .ok (.iload 5, 2) := by decide +kernel
theorem dX15_turnAbout_41 : decode cX15_turnAbout 41 = .ok (.invokeinterface 143 2, 5) := by decide +kernel
theorem dX15_turnAbout_46 : decode cX15_turnAbout 46 = .ok (.checkcast 119, 3) := by decide +kernel
theorem dX15_turnAbout_49 : decode cX15_turnAbout 49 = .ok (.invokevirtual 194, 3) := by decide +kernel
theorem dX15_turnAbout_52 : decode cX15_turnAbout 52 = .ok (.bipush 115, 2) := by decide +kernel
theorem dX15_turnAbout_54 : decode cX15_turnAbout 54 = .ok (.invokevirtual 345, 3) := by decide +kernel
theorem dX15_turnAbout_57 : decode cX15_turnAbout 57 = .ok (.lastore, 1) := by decide +kernel
theorem dX15_turnAbout_58 : decode cX15_turnAbout 58 = .ok (.iinc 5 1, 3) := by decide +kernel
theorem dX15_turnAbout_61 : decode cX15_turnAbout 61 = .ok (.goto (-36), 3) := by decide +kernel
theorem dX15_turnAbout_64 : decode cX15_turnAbout 64 = .ok (.aload_n 0, 1) := by decide +kernel
theorem dX15_turnAbout_65 : decode cX15_turnAbout 65 = .ok (.getfield 32, 3) := by decide +kernel
theorem dX15_turnAbout_68 : decode cX15_turnAbout 68 = .ok (.invokeinterface 92 1, 5) := by decide +kernel
theorem dX15_turnAbout_73 : decode cX15_turnAbout 73 = .ok (.iconst 1, 1) := by decide +kernel
theorem dX15_turnAbout_74 : decode cX15_turnAbout 74 = .ok (.isub, 1) := by decide +kernel
theorem dX15_turnAbout_75 : decode cX15_turnAbout 75 = .ok (.istore 5, 2) := by decide +kernel
theorem dX15_turnAbout_77 : decode cX15_turnAbout 77 = .ok (.iload 5, 2) := by decide +kernel
theorem dX15_turnAbout_79 : decode cX15_turnAbout 79 = .ok (.ifCond .lt 91, 3) := by decide +kernel
theorem dX15_turnAbout_82 : decode cX15_turnAbout 82 = .ok (.iconst 0, 1) := by decide +kernel
theorem dX15_turnAbout_83 : decode cX15_turnAbout 83 = .ok (.istore 6, 2) := by decide +kernel
theorem dX15_turnAbout_85 : decode cX15_turnAbout 85 = .ok (.aload 4, 2) := by decide +kernel
theorem dX15_turnAbout_87 : decode cX15_turnAbout 87 = .ok (.astore 7, 2) := by decide +kernel
theorem dX15_turnAbout_89 : decode cX15_turnAbout 89 = .ok (.aload 7, 2) := by decide +kernel
theorem dX15_turnAbout_91 : decode cX15_turnAbout 91 = .ok (.arraylength, 1) := by decide +kernel
theorem dX15_turnAbout_92 : decode cX15_turnAbout 92 = .ok (.istore 8, 2) := by decide +kernel
theorem dX15_turnAbout_94 : decode cX15_turnAbout 94 = .ok (.iconst 0, 1) := by decide +kernel
theorem dX15_turnAbout_95 : decode cX15_turnAbout 95 = .ok (.istore 9, 2) := by decide +kernel
theorem dX15_turnAbout_97 : decode cX15_turnAbout 97 = .ok (.iload 9, 2) := by decide +kernel
theorem dX15_turnAbout_99 : decode cX15_turnAbout 99 = .ok (.iload 8, 2) := by decide +kernel
theorem dX15_turnAbout_101 : decode cX15_turnAbout 101 = .ok (.if_icmp .ge 47, 3) := by decide +kernel
theorem dX15_turnAbout_104 : decode cX15_turnAbout 104 = .ok (.aload 7, 2) := by decide +kernel
theorem dX15_turnAbout_106 : decode cX15_turnAbout 106 = .ok (.iload 9, 2) := by decide +kernel
theorem dX15_turnAbout_108 : decode cX15_turnAbout 108 = .ok (.laload, 1) := by decide +kernel
theorem dX15_turnAbout_109 : decode cX15_turnAbout 109 = .ok (.lstore 10, 2) := by decide +kernel
theorem dX15_turnAbout_111 : decode cX15_turnAbout 111 = .ok (.iload 6, 2) := by decide +kernel
theorem dX15_turnAbout_113 : decode cX15_turnAbout 113 = .ok (.lload 10, 2) := by decide +kernel
theorem dX15_turnAbout_115 : decode cX15_turnAbout 115 = .ok (.iload 5, 2) := by decide +kernel
theorem dX15_turnAbout_117 : decode cX15_turnAbout 117 = .ok (.lshr, 1) := by decide +kernel
theorem dX15_turnAbout_118 : decode cX15_turnAbout 118 = .ok (.lconst 1, 1) := by decide +kernel
theorem dX15_turnAbout_119 : decode cX15_turnAbout 119 = .ok (.land, 1) := by decide +kernel
theorem dX15_turnAbout_120 : decode cX15_turnAbout 120 = .ok (.lconst 1, 1) := by decide +kernel
theorem dX15_turnAbout_121 : decode cX15_turnAbout 121 = .ok (.lcmp, 1) := by decide +kernel
theorem dX15_turnAbout_122 : decode cX15_turnAbout 122 = .ok (.ifCond .ne 16, 3) := by decide +kernel
theorem dX15_turnAbout_125 : decode cX15_turnAbout 125 = .ok (.lload 10, 2) := by decide +kernel
theorem dX15_turnAbout_127 : decode cX15_turnAbout 127 = .ok (.lload_n 2, 1) := by decide +kernel
theorem dX15_turnAbout_128 : decode cX15_turnAbout 128 = .ok (.land, 1) := by decide +kernel
theorem dX15_turnAbout_129 : decode cX15_turnAbout 129 = .ok (.lconst 0, 1) := by decide +kernel
theorem dX15_turnAbout_130 : decode cX15_turnAbout 130 = .ok (.lcmp, 1) := by decide +kernel
theorem dX15_turnAbout_131 : decode cX15_turnAbout 131 = .ok (.ifCond .ne 7, 3) := by decide +kernel
theorem dX15_turnAbout_134 : decode cX15_turnAbout 134 = .ok (.iconst 1, 1) := by decide +kernel
theorem dX15_turnAbout_135 : decode cX15_turnAbout 135 = .ok (.goto 4, 3) := by decide +kernel
theorem dX15_turnAbout_138 : decode cX15_turnAbout 138 = .ok (.iconst 0, 1) := by decide +kernel
theorem dX15_turnAbout_139 : decode cX15_turnAbout 139 = .ok (.ior, 1) := by decide +kernel
theorem dX15_turnAbout_140 : decode cX15_turnAbout 140 = .ok (.istore 6, 2) := by decide +kernel
theorem dX15_turnAbout_142 : decode cX15_turnAbout 142 = .ok (.iinc 9 1, 3) := by decide +kernel
theorem dX15_turnAbout_145 : decode cX15_turnAbout 145 = .ok (.goto (-48), 3) := by decide +kernel
theorem dX15_turnAbout_148 : decode cX15_turnAbout 148 = .ok (.lload_n 2, 1) := by decide +kernel
theorem dX15_turnAbout_149 : decode cX15_turnAbout 149 = .ok (.iload 6, 2) := by decide +kernel
theorem dX15_turnAbout_151 : decode cX15_turnAbout 151 = .ok (.ifCond .eq 10, 3) := by decide +kernel
theorem dX15_turnAbout_154 : decode cX15_turnAbout 154 = .ok (.lconst 1, 1) := by decide +kernel
theorem dX15_turnAbout_155 : decode cX15_turnAbout 155 = .ok (.iload 5, 2) := by decide +kernel
theorem dX15_turnAbout_157 : decode cX15_turnAbout 157 = .ok (.lshl, 1) := by decide +kernel
theorem dX15_turnAbout_158 : decode cX15_turnAbout 158 = .ok (.goto 4, 3) := by decide +kernel
theorem dX15_turnAbout_161 : decode cX15_turnAbout 161 = .ok (.lconst 0, 1) := by decide +kernel
theorem dX15_turnAbout_162 : decode cX15_turnAbout 162 = .ok (.lor, 1) := by decide +kernel
theorem dX15_turnAbout_163 : decode cX15_turnAbout 163 = .ok (.lstore_n 2, 1) := by decide +kernel
theorem dX15_turnAbout_164 : decode cX15_turnAbout 164 = .ok (.iinc 5 (-1), 3) := by decide +kernel
theorem dX15_turnAbout_167 : decode cX15_turnAbout 167 = .ok (.goto (-90), 3) := by decide +kernel
theorem dX15_turnAbout_170 : decode cX15_turnAbout 170 = .ok (.aload_n 0, 1) := by decide +kernel
theorem dX15_turnAbout_171 : decode cX15_turnAbout 171 = .ok (.getfield 32, 3) := by decide +kernel
theorem dX15_turnAbout_174 : decode cX15_turnAbout 174 = .ok (.invokeinterface 92 1, 5) := by decide +kernel
theorem dX15_turnAbout_179 : decode cX15_turnAbout 179 = .ok (.iconst 1, 1) := by decide +kernel
theorem dX15_turnAbout_180 : decode cX15_turnAbout 180 = .ok (.isub, 1) := by decide +kernel
theorem dX15_turnAbout_181 : decode cX15_turnAbout 181 = .ok (.istore 5, 2) := by decide +kernel
theorem dX15_turnAbout_183 : decode cX15_turnAbout 183 = .ok (.iload 5, 2) := by decide +kernel
theorem dX15_turnAbout_185 : decode cX15_turnAbout 185 = .ok (.ifCond .lt 32, 3) := by decide +kernel
theorem dX15_turnAbout_188 : decode cX15_turnAbout 188 = .ok (.lload_n 2, 1) := by decide +kernel
theorem dX15_turnAbout_189 : decode cX15_turnAbout 189 = .ok (.iload 5, 2) := by decide +kernel
theorem dX15_turnAbout_191 : decode cX15_turnAbout 191 = .ok (.lshr, 1) := by decide +kernel
theorem dX15_turnAbout_192 : decode cX15_turnAbout 192 = .ok (.lconst 1, 1) := by decide +kernel
theorem dX15_turnAbout_193 : decode cX15_turnAbout 193 = .ok (.land, 1) := by decide +kernel
theorem dX15_turnAbout_194 : decode cX15_turnAbout 194 = .ok (.lconst 0, 1) := by decide +kernel
theorem dX15_turnAbout_195 : decode cX15_turnAbout 195 = .ok (.lcmp, 1) := by decide +kernel
theorem dX15_turnAbout_196 : decode cX15_turnAbout 196 = .ok (.ifCond .ne 15, 3) := by decide +kernel
theorem dX15_turnAbout_199 : decode cX15_turnAbout 199 = .ok (.aload_n 0, 1) := by decide +kernel
theorem dX15_turnAbout_200 : decode cX15_turnAbout 200 = .ok (.getfield 32, 3) := by decide +kernel
theorem dX15_turnAbout_203 : decode cX15_turnAbout 203 = .ok (.iload 5, 2) := by decide +kernel
theorem dX15_turnAbout_205 : decode cX15_turnAbout 205 = .ok (.invokeinterface 367 2, 5) := by decide +kernel
theorem dX15_turnAbout_210 : decode cX15_turnAbout 210 = .ok (.pop, 1) := by decide +kernel
theorem dX15_turnAbout_211 : decode cX15_turnAbout 211 = .ok (.iinc 5 (-1), 3) := by decide +kernel
theorem dX15_turnAbout_214 : decode cX15_turnAbout 214 = .ok (.goto (-31), 3) := by decide +kernel
theorem dX15_turnAbout_217 : decode cX15_turnAbout 217 = .ok (.aload_n 0, 1) := by decide +kernel
theorem dX15_turnAbout_218 : decode cX15_turnAbout 218 = .ok (.getfield 32, 3) := by decide +kernel
theorem dX15_turnAbout_221 : decode cX15_turnAbout 221 = .ok (.invokeinterface 92 1, 5) := by decide +kernel
theorem dX15_turnAbout_226 : decode cX15_turnAbout 226 = .ok (.ireturn, 1) := by decide +kernel
set_option maxHeartbeats 4000000 in
set_option maxRecDepth 100000 in
theorem k_X15_seedFor (l : Launch) (D : va_G) (g : Nat → ClassId) (z0 sz : Nat) (a : Nat → Nat) (p0 : Int32) : Met l yX15_seedFor (.code yX15_seedFor cX15_seedFor 7 (some .int) :: TG) (rmk 2 0 0 43) (va_Pc [.ref (a 200), .int p0] (PP D g z0 sz [((a 200), f_m a g), ((a 206), .inr (5, [.int 0, .ref (g 100), .int 0]))])) (va_Qi (fun (r : Int32) (u : Unit) => (r = 0) ∧ True) (fun (u : Unit) (t : State) => va_P D vwCl [((a 200), .inr (21, [.int 1, .ref (a 201), .ref (a 202), .ref (a 203), .ref (a 204), .ref (a 205), .ref (a 206), .int 0, .int 0, .int 0, .int 0, .ref (a 208), .ref (a 209), .ref (a 210), .ref (a 211), .ref (a 212), .int 4, .int 12, .int (-1), .int 0, .ref (g 200), .ref (a 213), .int 0, .int 97, .ref (a 214), .ref (a 215), .ref (a 207), .null, .int 0]))] t.heap ∧ va_D (va_A [((a 200), f_m a g), ((a 206), .inr (5, [.int 0, .ref (g 100), .int 0]))] sz) [((a 200), .inr (21, [.int 1, .ref (a 201), .ref (a 202), .ref (a 203), .ref (a 204), .ref (a 205), .ref (a 206), .int 0, .int 0, .int 0, .int 0, .ref (a 208), .ref (a 209), .ref (a 210), .ref (a 211), .ref (a 212), .int 4, .int 12, .int (-1), .int 0, .ref (g 200), .ref (a 213), .int 0, .int 97, .ref (a 214), .ref (a 215), .ref (a 207), .null, .int 0]))]) (va_A [((a 200), f_m a g), ((a 206), .inr (5, [.int 0, .ref (g 100), .int 0]))] sz)) 0 0 (va_A [((a 200), f_m a g), ((a 206), .inr (5, [.int 0, .ref (g 100), .int 0]))] sz) := by
  refine met0 (cc := cX15_seedFor) (n := 7) (by decide) (Nat.le_of_ble_eq_true rfl) ?_
  intro p e s m args below meth c hx hb hr hml hown ht hlocks hnm hP0 hD0 hK hZ hsz hz ls hl
  subst hsz
  have hA : ∀ q : Nat, s.heap.size ≤ q → va_A [((a 200), f_m a g), ((a 206), .inr (5, [.int 0, .ref (g 100), .int 0]))] s.heap.size q := Anw
  have hAz : ∀ q, va_A [((a 200), f_m a g), ((a 206), .inr (5, [.int 0, .ref (g 100), .int 0]))] s.heap.size q → z0 ≤ q := Awz hz hD0
  have hS : va_S (va_A [((a 200), f_m a g), ((a 206), .inr (5, [.int 0, .ref (g 100), .int 0]))] s.heap.size) s.heap s.heap [] := va_S.rf
  have hD : va_D (va_A [((a 200), f_m a g), ((a 206), .inr (5, [.int 0, .ref (g 100), .int 0]))] s.heap.size) [((a 200), f_m a g), ((a 206), .inr (5, [.int 0, .ref (g 100), .int 0]))] := hD0.self
  have hP : va_P D vwCl [((a 200), f_m a g), ((a 206), .inr (5, [.int 0, .ref (g 100), .int 0]))] s.heap := hP0
  have hl : lv_has ls 7 [(0, .ref (a 200)), (1, .int p0)] := hl
  refine lv_aload_n hx hb dX15_seedFor_0 rfl (lv_at hl 0 rfl) ?_
  refine lv_aload_n hx hb dX15_seedFor_1 rfl (lv_at hl 0 rfl) ?_
  refine lv_iload_n hx hb dX15_seedFor_2 rfl (lv_at hl 1 rfl) ?_
  have hPc : va_P D vwCl [((a 200), f_m a g), ((a 206), .inr (5, [.int 0, .ref (g 100), .int 0]))] _ := hP.sub (ws' := [((a 200), f_m a g), ((a 206), .inr (5, [.int 0, .ref (g 100), .int 0]))]) [0, 1] rfl
  have hDc : va_D (fun q => z0 ≤ q) [((a 200), f_m a g), ((a 206), .inr (5, [.int 0, .ref (g 100), .int 0]))] := (hD.to hAz).pick (ws' := [((a 200), f_m a g), ((a 206), .inr (5, [.int 0, .ref (g 100), .int 0]))]) [0, 1] (by decide) rfl
  have hFc := AnA (ws := [((a 200), f_m a g), ((a 206), .inr (5, [.int 0, .ref (g 100), .int 0]))]) hS.1
  refine va_calli (va_runV (As := [.int p0]) (rest := [.ref (a 200)]) ⟨hx, hb, hml, hown, ht⟩ (k_X15_isPattern l D g z0 _ a p0) (cwV 1 ht (gV w_498 w_500 w_501 w_334 w_499) rfl rfl rfl (by decide +kernel) (le2 rfl rfl)) ⟨PP.blind, va_recv hK.1 hP (ci := 21) (q0 := 0) rfl rfl, PP.mk' hK hZ hz hAz hS hPc hDc⟩ rfl rfl hl.1 rfl (lv_room (Nat.le_of_ble_eq_true rfl)) dX15_seedFor_3 (le2 rfl rfl)) hS (fun q _ h => hFc q h) hFc (fun r u t H locs ht1 hvm hw hB hz1 hk1 hS => ?_)
  obtain ⟨rfl, hw⟩ := hw
  have hP := ro1 hP hk1
  refine lv_if_eq (tgt := 13) hx hb dX15_seedFor_6 (by decide) (fun c_1 => ?_) (fun c_1 => ?_)
  · refine lv_iconst (v := 1) hx hb dX15_seedFor_13 (by decide) ?_
    have hPc : va_P D vwCl [((a 200), f_m a g)] _ := hP.sub (ws' := [((a 200), f_m a g)]) [0] rfl
    have hDc : va_D (fun q => z0 ≤ q) [((a 200), f_m a g)] := (hD.to hAz).pick (ws' := [((a 200), f_m a g)]) [0] (by decide) rfl
    have hFc := va_free (wc := [((a 200), f_m a g)]) hD hS hA [0] rfl
    refine va_calli (va_runV (As := [.int 1]) (rest := []) ⟨hx, hb, hml, hown, ht⟩ (k_X15_isWrong l D g z0 _ a) (cwV 1 ht (gV w_376 w_378 w_379 w_334 w_377) rfl rfl rfl (by decide +kernel) (le2 rfl rfl)) ⟨PP.blind, va_recv hK.1 hP (ci := 21) (q0 := 0) rfl rfl, PP.mk' hK hZ hz hAz hS hPc hDc⟩ rfl rfl hl.1 rfl (lv_room (Nat.le_of_ble_eq_true rfl)) dX15_seedFor_14 (le2 rfl rfl)) hS (fun q _ h => hFc q h) hFc (fun r u t H locs ht1 hvm hw hB hz1 hk1 hS => ?_)
    obtain ⟨rfl, hw⟩ := hw
    obtain ⟨hP1, hD1⟩ := hB
    rw [ht1] at hP1
    obtain ⟨hP, hD⟩ := va_join (wr := [((a 206), .inr (5, [.int 0, .ref (g 100), .int 0]))]) (w1 := [((a 200), .inr (21, [.int 1, .ref (a 201), .ref (a 202), .ref (a 203), .ref (a 204), .ref (a 205), .ref (a 206), .int 0, .int 0, .int 0, .int 0, .ref (a 208), .ref (a 209), .ref (a 210), .ref (a 211), .ref (a 212), .int 4, .int 12, .int (-1), .int 0, .ref (g 200), .ref (a 213), .int 0, .int 97, .ref (a 214), .ref (a 215), .ref (a 207), .null, .int 0]))]) hP hD [0] [1] rfl rfl (by decide) (by decide) hk1 hFc hP1 hD1
    have hP : va_P D vwCl [((a 206), .inr (5, [.int 0, .ref (g 100), .int 0])), ((a 200), .inr (21, [.int 1, .ref (a 201), .ref (a 202), .ref (a 203), .ref (a 204), .ref (a 205), .ref (a 206), .int 0, .int 0, .int 0, .int 0, .ref (a 208), .ref (a 209), .ref (a 210), .ref (a 211), .ref (a 212), .int 4, .int 12, .int (-1), .int 0, .ref (g 200), .ref (a 213), .int 0, .int 97, .ref (a 214), .ref (a 215), .ref (a 207), .null, .int 0]))] H := hP
    have hD : va_D (va_A [((a 200), f_m a g), ((a 206), .inr (5, [.int 0, .ref (g 100), .int 0]))] s.heap.size) [((a 206), .inr (5, [.int 0, .ref (g 100), .int 0])), ((a 200), .inr (21, [.int 1, .ref (a 201), .ref (a 202), .ref (a 203), .ref (a 204), .ref (a 205), .ref (a 206), .int 0, .int 0, .int 0, .int 0, .ref (a 208), .ref (a 209), .ref (a 210), .ref (a 211), .ref (a 212), .int 4, .int 12, .int (-1), .int 0, .ref (g 200), .ref (a 213), .int 0, .int 97, .ref (a 214), .ref (a 215), .ref (a 207), .null, .int 0]))] := hD
    refine lv_if_eq (tgt := 22) hx hb dX15_seedFor_17 (by decide) (fun c_2 => ?_) (fun c_2 => ?_)
    · exact absurd c_2 (by decide)
    · refine lv_iconst (v := 0) hx hb dX15_seedFor_20 (by decide) ?_
      have hP9 := hP.sub (ws' := [((a 200), .inr (21, [.int 1, .ref (a 201), .ref (a 202), .ref (a 203), .ref (a 204), .ref (a 205), .ref (a 206), .int 0, .int 0, .int 0, .int 0, .ref (a 208), .ref (a 209), .ref (a 210), .ref (a 211), .ref (a 212), .int 4, .int 12, .int (-1), .int 0, .ref (g 200), .ref (a 213), .int 0, .int 97, .ref (a 214), .ref (a 215), .ref (a 207), .null, .int 0]))]) [1] rfl
      have hD9 := hD.sub (ws' := [((a 200), .inr (21, [.int 1, .ref (a 201), .ref (a 202), .ref (a 203), .ref (a 204), .ref (a 205), .ref (a 206), .int 0, .int 0, .int 0, .int 0, .ref (a 208), .ref (a 209), .ref (a 210), .ref (a 211), .ref (a 212), .int 4, .int 12, .int (-1), .int 0, .ref (g 200), .ref (a 213), .int 0, .int 97, .ref (a 214), .ref (a 215), .ref (a 207), .null, .int 0]))]) [1] (by decide) rfl
      refine W.widen (k := 0) (n := 0) (Nat.le_of_ble_eq_true rfl) (Nat.le_of_ble_eq_true rfl) ?_
      exact W.iret (v := 0) hx hb hr (fun t ht9 hW9 => ⟨⟨0, (), rfl, ⟨rfl, trivial⟩, ⟨(by rw [ht9]; exact hP9), hD9⟩⟩, hS.F ht9⟩) hS.2.2 dX15_seedFor_21 hlocks
  · exact absurd c_1 (by decide)
set_option maxHeartbeats 4000000 in
set_option maxRecDepth 100000 in
theorem k_X15_seen (l : Launch) (D : va_G) (g : Nat → ClassId) (z0 sz : Nat) (a : Nat → Nat) (p0 : Int32) (p1 : Int32) : Met l yX15_seen (.code yX15_seen cX15_seen 3 (some .int) :: TG) (rmk 2 0 0 43) (va_Pc [.ref (a 200), .int p0, .int p1] (PP D g z0 sz [((a 200), f_m a g), ((a 206), .inr (5, [.int 0, .ref (g 100), .int 0]))])) (va_Qi (fun (r : Int32) (u : Unit) => (r = 0) ∧ True) (fun (u : Unit) (t : State) => va_P D vwCl [((a 200), .inr (21, [.int 1, .ref (a 201), .ref (a 202), .ref (a 203), .ref (a 204), .ref (a 205), .ref (a 206), .int 0, .int 0, .int 0, .int 0, .ref (a 208), .ref (a 209), .ref (a 210), .ref (a 211), .ref (a 212), .int 4, .int 12, .int (-1), .int 0, .ref (g 200), .ref (a 213), .int 0, .int 97, .ref (a 214), .ref (a 215), .ref (a 207), .null, .int 0]))] t.heap ∧ va_D (va_A [((a 200), f_m a g), ((a 206), .inr (5, [.int 0, .ref (g 100), .int 0]))] sz) [((a 200), .inr (21, [.int 1, .ref (a 201), .ref (a 202), .ref (a 203), .ref (a 204), .ref (a 205), .ref (a 206), .int 0, .int 0, .int 0, .int 0, .ref (a 208), .ref (a 209), .ref (a 210), .ref (a 211), .ref (a 212), .int 4, .int 12, .int (-1), .int 0, .ref (g 200), .ref (a 213), .int 0, .int 97, .ref (a 214), .ref (a 215), .ref (a 207), .null, .int 0]))]) (va_A [((a 200), f_m a g), ((a 206), .inr (5, [.int 0, .ref (g 100), .int 0]))] sz)) 0 0 (va_A [((a 200), f_m a g), ((a 206), .inr (5, [.int 0, .ref (g 100), .int 0]))] sz) := by
  refine met0 (cc := cX15_seen) (n := 3) (by decide) (Nat.le_of_ble_eq_true rfl) ?_
  intro p e s m args below meth c hx hb hr hml hown ht hlocks hnm hP0 hD0 hK hZ hsz hz ls hl
  subst hsz
  have hA : ∀ q : Nat, s.heap.size ≤ q → va_A [((a 200), f_m a g), ((a 206), .inr (5, [.int 0, .ref (g 100), .int 0]))] s.heap.size q := Anw
  have hAz : ∀ q, va_A [((a 200), f_m a g), ((a 206), .inr (5, [.int 0, .ref (g 100), .int 0]))] s.heap.size q → z0 ≤ q := Awz hz hD0
  have hS : va_S (va_A [((a 200), f_m a g), ((a 206), .inr (5, [.int 0, .ref (g 100), .int 0]))] s.heap.size) s.heap s.heap [] := va_S.rf
  have hD : va_D (va_A [((a 200), f_m a g), ((a 206), .inr (5, [.int 0, .ref (g 100), .int 0]))] s.heap.size) [((a 200), f_m a g), ((a 206), .inr (5, [.int 0, .ref (g 100), .int 0]))] := hD0.self
  have hP : va_P D vwCl [((a 200), f_m a g), ((a 206), .inr (5, [.int 0, .ref (g 100), .int 0]))] s.heap := hP0
  have hl : lv_has ls 3 [(0, .ref (a 200)), (1, .int p0), (2, .int p1)] := hl
  refine lv_aload_n hx hb dX15_seen_0 rfl (lv_at hl 0 rfl) ?_
  refine lv_aload_n hx hb dX15_seen_1 rfl (lv_at hl 0 rfl) ?_
  refine lv_iload_n hx hb dX15_seen_2 rfl (lv_at hl 1 rfl) ?_
  have hPc : va_P D vwCl [((a 200), f_m a g), ((a 206), .inr (5, [.int 0, .ref (g 100), .int 0]))] _ := hP.sub (ws' := [((a 200), f_m a g), ((a 206), .inr (5, [.int 0, .ref (g 100), .int 0]))]) [0, 1] rfl
  have hDc : va_D (fun q => z0 ≤ q) [((a 200), f_m a g), ((a 206), .inr (5, [.int 0, .ref (g 100), .int 0]))] := (hD.to hAz).pick (ws' := [((a 200), f_m a g), ((a 206), .inr (5, [.int 0, .ref (g 100), .int 0]))]) [0, 1] (by decide) rfl
  have hFc := AnA (ws := [((a 200), f_m a g), ((a 206), .inr (5, [.int 0, .ref (g 100), .int 0]))]) hS.1
  refine va_calli (va_runV (As := [.int p0]) (rest := [.ref (a 200)]) ⟨hx, hb, hml, hown, ht⟩ (k_X15_isPattern l D g z0 _ a p0) (cwV 1 ht (gV w_498 w_500 w_501 w_334 w_499) rfl rfl rfl (by decide +kernel) (le2 rfl rfl)) ⟨PP.blind, va_recv hK.1 hP (ci := 21) (q0 := 0) rfl rfl, PP.mk' hK hZ hz hAz hS hPc hDc⟩ rfl rfl hl.1 rfl (lv_room (Nat.le_of_ble_eq_true rfl)) dX15_seen_3 (le2 rfl rfl)) hS (fun q _ h => hFc q h) hFc (fun r u t H locs ht1 hvm hw hB hz1 hk1 hS => ?_)
  obtain ⟨rfl, hw⟩ := hw
  have hP := ro1 hP hk1
  refine lv_if_eq (tgt := 32) hx hb dX15_seen_6 (by decide) (fun c_1 => ?_) (fun c_1 => ?_)
  · refine lv_iconst (v := 1) hx hb dX15_seen_32 (by decide) ?_
    have hPc : va_P D vwCl [((a 200), f_m a g)] _ := hP.sub (ws' := [((a 200), f_m a g)]) [0] rfl
    have hDc : va_D (fun q => z0 ≤ q) [((a 200), f_m a g)] := (hD.to hAz).pick (ws' := [((a 200), f_m a g)]) [0] (by decide) rfl
    have hFc := va_free (wc := [((a 200), f_m a g)]) hD hS hA [0] rfl
    refine va_calli (va_runV (As := [.int 1]) (rest := []) ⟨hx, hb, hml, hown, ht⟩ (k_X15_isWrong l D g z0 _ a) (cwV 1 ht (gV w_376 w_378 w_379 w_334 w_377) rfl rfl rfl (by decide +kernel) (le2 rfl rfl)) ⟨PP.blind, va_recv hK.1 hP (ci := 21) (q0 := 0) rfl rfl, PP.mk' hK hZ hz hAz hS hPc hDc⟩ rfl rfl hl.1 rfl (lv_room (Nat.le_of_ble_eq_true rfl)) dX15_seen_33 (le2 rfl rfl)) hS (fun q _ h => hFc q h) hFc (fun r u t H locs ht1 hvm hw hB hz1 hk1 hS => ?_)
    obtain ⟨rfl, hw⟩ := hw
    obtain ⟨hP1, hD1⟩ := hB
    rw [ht1] at hP1
    obtain ⟨hP, hD⟩ := va_join (wr := [((a 206), .inr (5, [.int 0, .ref (g 100), .int 0]))]) (w1 := [((a 200), .inr (21, [.int 1, .ref (a 201), .ref (a 202), .ref (a 203), .ref (a 204), .ref (a 205), .ref (a 206), .int 0, .int 0, .int 0, .int 0, .ref (a 208), .ref (a 209), .ref (a 210), .ref (a 211), .ref (a 212), .int 4, .int 12, .int (-1), .int 0, .ref (g 200), .ref (a 213), .int 0, .int 97, .ref (a 214), .ref (a 215), .ref (a 207), .null, .int 0]))]) hP hD [0] [1] rfl rfl (by decide) (by decide) hk1 hFc hP1 hD1
    have hP : va_P D vwCl [((a 206), .inr (5, [.int 0, .ref (g 100), .int 0])), ((a 200), .inr (21, [.int 1, .ref (a 201), .ref (a 202), .ref (a 203), .ref (a 204), .ref (a 205), .ref (a 206), .int 0, .int 0, .int 0, .int 0, .ref (a 208), .ref (a 209), .ref (a 210), .ref (a 211), .ref (a 212), .int 4, .int 12, .int (-1), .int 0, .ref (g 200), .ref (a 213), .int 0, .int 97, .ref (a 214), .ref (a 215), .ref (a 207), .null, .int 0]))] H := hP
    have hD : va_D (va_A [((a 200), f_m a g), ((a 206), .inr (5, [.int 0, .ref (g 100), .int 0]))] s.heap.size) [((a 206), .inr (5, [.int 0, .ref (g 100), .int 0])), ((a 200), .inr (21, [.int 1, .ref (a 201), .ref (a 202), .ref (a 203), .ref (a 204), .ref (a 205), .ref (a 206), .int 0, .int 0, .int 0, .int 0, .ref (a 208), .ref (a 209), .ref (a 210), .ref (a 211), .ref (a 212), .int 4, .int 12, .int (-1), .int 0, .ref (g 200), .ref (a 213), .int 0, .int 97, .ref (a 214), .ref (a 215), .ref (a 207), .null, .int 0]))] := hD
    refine lv_if_eq (tgt := 43) hx hb dX15_seen_36 (by decide) (fun c_2 => ?_) (fun c_2 => ?_)
    · exact absurd c_2 (by decide)
    · refine lv_iconst (v := 0) hx hb dX15_seen_39 (by decide) ?_
      refine lv_goto (tgt := 54) hx hb dX15_seen_40 (by decide) ?_
      have hP9 := hP.sub (ws' := [((a 200), .inr (21, [.int 1, .ref (a 201), .ref (a 202), .ref (a 203), .ref (a 204), .ref (a 205), .ref (a 206), .int 0, .int 0, .int 0, .int 0, .ref (a 208), .ref (a 209), .ref (a 210), .ref (a 211), .ref (a 212), .int 4, .int 12, .int (-1), .int 0, .ref (g 200), .ref (a 213), .int 0, .int 97, .ref (a 214), .ref (a 215), .ref (a 207), .null, .int 0]))]) [1] rfl
      have hD9 := hD.sub (ws' := [((a 200), .inr (21, [.int 1, .ref (a 201), .ref (a 202), .ref (a 203), .ref (a 204), .ref (a 205), .ref (a 206), .int 0, .int 0, .int 0, .int 0, .ref (a 208), .ref (a 209), .ref (a 210), .ref (a 211), .ref (a 212), .int 4, .int 12, .int (-1), .int 0, .ref (g 200), .ref (a 213), .int 0, .int 97, .ref (a 214), .ref (a 215), .ref (a 207), .null, .int 0]))]) [1] (by decide) rfl
      refine W.widen (k := 0) (n := 0) (Nat.le_of_ble_eq_true rfl) (Nat.le_of_ble_eq_true rfl) ?_
      exact W.iret (v := 0) hx hb hr (fun t ht9 hW9 => ⟨⟨0, (), rfl, ⟨rfl, trivial⟩, ⟨(by rw [ht9]; exact hP9), hD9⟩⟩, hS.F ht9⟩) hS.2.2 dX15_seen_54 hlocks
  · exact absurd c_1 (by decide)
set_option maxHeartbeats 4000000 in
set_option maxRecDepth 100000 in
theorem k_X15_setTime (l : Launch) (D : va_G) (g : Nat → ClassId) (z0 sz : Nat) (a : Nat → Nat) (p0 : Int32) (p1 : Int32) : Met l yX15_setTime (.code yX15_setTime cX15_setTime 4 (some .int) :: TG) (rmk 2 0 0 43) (va_Pc [.ref (a 200), .int p0, .int p1] (PP D g z0 sz [((a 200), f_m a g), ((a 206), .inr (5, [.int 0, .ref (g 100), .int 0]))])) (va_Qi (fun (r : Int32) (u : Unit) => (r = 0) ∧ True) (fun (u : Unit) (t : State) => va_P D vwCl [((a 200), .inr (21, [.int 1, .ref (a 201), .ref (a 202), .ref (a 203), .ref (a 204), .ref (a 205), .ref (a 206), .int 0, .int 0, .int 0, .int 0, .ref (a 208), .ref (a 209), .ref (a 210), .ref (a 211), .ref (a 212), .int 4, .int 12, .int (-1), .int 0, .ref (g 200), .ref (a 213), .int 0, .int 97, .ref (a 214), .ref (a 215), .ref (a 207), .null, .int 0]))] t.heap ∧ va_D (va_A [((a 200), f_m a g), ((a 206), .inr (5, [.int 0, .ref (g 100), .int 0]))] sz) [((a 200), .inr (21, [.int 1, .ref (a 201), .ref (a 202), .ref (a 203), .ref (a 204), .ref (a 205), .ref (a 206), .int 0, .int 0, .int 0, .int 0, .ref (a 208), .ref (a 209), .ref (a 210), .ref (a 211), .ref (a 212), .int 4, .int 12, .int (-1), .int 0, .ref (g 200), .ref (a 213), .int 0, .int 97, .ref (a 214), .ref (a 215), .ref (a 207), .null, .int 0]))]) (va_A [((a 200), f_m a g), ((a 206), .inr (5, [.int 0, .ref (g 100), .int 0]))] sz)) 0 0 (va_A [((a 200), f_m a g), ((a 206), .inr (5, [.int 0, .ref (g 100), .int 0]))] sz) := by
  refine met0 (cc := cX15_setTime) (n := 4) (by decide) (Nat.le_of_ble_eq_true rfl) ?_
  intro p e s m args below meth c hx hb hr hml hown ht hlocks hnm hP0 hD0 hK hZ hsz hz ls hl
  subst hsz
  have hA : ∀ q : Nat, s.heap.size ≤ q → va_A [((a 200), f_m a g), ((a 206), .inr (5, [.int 0, .ref (g 100), .int 0]))] s.heap.size q := Anw
  have hAz : ∀ q, va_A [((a 200), f_m a g), ((a 206), .inr (5, [.int 0, .ref (g 100), .int 0]))] s.heap.size q → z0 ≤ q := Awz hz hD0
  have hS : va_S (va_A [((a 200), f_m a g), ((a 206), .inr (5, [.int 0, .ref (g 100), .int 0]))] s.heap.size) s.heap s.heap [] := va_S.rf
  have hD : va_D (va_A [((a 200), f_m a g), ((a 206), .inr (5, [.int 0, .ref (g 100), .int 0]))] s.heap.size) [((a 200), f_m a g), ((a 206), .inr (5, [.int 0, .ref (g 100), .int 0]))] := hD0.self
  have hP : va_P D vwCl [((a 200), f_m a g), ((a 206), .inr (5, [.int 0, .ref (g 100), .int 0]))] s.heap := hP0
  have hl : lv_has ls 4 [(0, .ref (a 200)), (1, .int p0), (2, .int p1)] := hl
  refine lv_aload_n hx hb dX15_setTime_0 rfl (lv_at hl 0 rfl) ?_
  refine lv_aload_n hx hb dX15_setTime_1 rfl (lv_at hl 0 rfl) ?_
  refine lv_iload_n hx hb dX15_setTime_2 rfl (lv_at hl 1 rfl) ?_
  have hPc : va_P D vwCl [((a 200), f_m a g), ((a 206), .inr (5, [.int 0, .ref (g 100), .int 0]))] _ := hP.sub (ws' := [((a 200), f_m a g), ((a 206), .inr (5, [.int 0, .ref (g 100), .int 0]))]) [0, 1] rfl
  have hDc : va_D (fun q => z0 ≤ q) [((a 200), f_m a g), ((a 206), .inr (5, [.int 0, .ref (g 100), .int 0]))] := (hD.to hAz).pick (ws' := [((a 200), f_m a g), ((a 206), .inr (5, [.int 0, .ref (g 100), .int 0]))]) [0, 1] (by decide) rfl
  have hFc := AnA (ws := [((a 200), f_m a g), ((a 206), .inr (5, [.int 0, .ref (g 100), .int 0]))]) hS.1
  refine va_calli (va_runV (As := [.int p0]) (rest := [.ref (a 200)]) ⟨hx, hb, hml, hown, ht⟩ (k_X15_isPattern l D g z0 _ a p0) (cwV 1 ht (gV w_498 w_500 w_501 w_334 w_499) rfl rfl rfl (by decide +kernel) (le2 rfl rfl)) ⟨PP.blind, va_recv hK.1 hP (ci := 21) (q0 := 0) rfl rfl, PP.mk' hK hZ hz hAz hS hPc hDc⟩ rfl rfl hl.1 rfl (lv_room (Nat.le_of_ble_eq_true rfl)) dX15_setTime_3 (le2 rfl rfl)) hS (fun q _ h => hFc q h) hFc (fun r u t H locs ht1 hvm hw hB hz1 hk1 hS => ?_)
  obtain ⟨rfl, hw⟩ := hw
  have hP := ro1 hP hk1
  refine lv_if_ne (tgt := 13) hx hb dX15_setTime_6 (by decide) (fun c_1 => ?_) (fun c_1 => ?_)
  · exact absurd c_1 (by decide)
  · refine lv_iconst (v := 1) hx hb dX15_setTime_9 (by decide) ?_
    refine lv_goto (tgt := 28) hx hb dX15_setTime_10 (by decide) ?_
    have hPc : va_P D vwCl [((a 200), f_m a g)] _ := hP.sub (ws' := [((a 200), f_m a g)]) [0] rfl
    have hDc : va_D (fun q => z0 ≤ q) [((a 200), f_m a g)] := (hD.to hAz).pick (ws' := [((a 200), f_m a g)]) [0] (by decide) rfl
    have hFc := va_free (wc := [((a 200), f_m a g)]) hD hS hA [0] rfl
    refine va_calli (va_runV (As := [.int 1]) (rest := []) ⟨hx, hb, hml, hown, ht⟩ (k_X15_isWrong l D g z0 _ a) (cwV 1 ht (gV w_376 w_378 w_379 w_334 w_377) rfl rfl rfl (by decide +kernel) (le2 rfl rfl)) ⟨PP.blind, va_recv hK.1 hP (ci := 21) (q0 := 0) rfl rfl, PP.mk' hK hZ hz hAz hS hPc hDc⟩ rfl rfl hl.1 rfl (lv_room (Nat.le_of_ble_eq_true rfl)) dX15_setTime_28 (le2 rfl rfl)) hS (fun q _ h => hFc q h) hFc (fun r u t H locs ht1 hvm hw hB hz1 hk1 hS => ?_)
    obtain ⟨rfl, hw⟩ := hw
    obtain ⟨hP1, hD1⟩ := hB
    rw [ht1] at hP1
    obtain ⟨hP, hD⟩ := va_join (wr := [((a 206), .inr (5, [.int 0, .ref (g 100), .int 0]))]) (w1 := [((a 200), .inr (21, [.int 1, .ref (a 201), .ref (a 202), .ref (a 203), .ref (a 204), .ref (a 205), .ref (a 206), .int 0, .int 0, .int 0, .int 0, .ref (a 208), .ref (a 209), .ref (a 210), .ref (a 211), .ref (a 212), .int 4, .int 12, .int (-1), .int 0, .ref (g 200), .ref (a 213), .int 0, .int 97, .ref (a 214), .ref (a 215), .ref (a 207), .null, .int 0]))]) hP hD [0] [1] rfl rfl (by decide) (by decide) hk1 hFc hP1 hD1
    have hP : va_P D vwCl [((a 206), .inr (5, [.int 0, .ref (g 100), .int 0])), ((a 200), .inr (21, [.int 1, .ref (a 201), .ref (a 202), .ref (a 203), .ref (a 204), .ref (a 205), .ref (a 206), .int 0, .int 0, .int 0, .int 0, .ref (a 208), .ref (a 209), .ref (a 210), .ref (a 211), .ref (a 212), .int 4, .int 12, .int (-1), .int 0, .ref (g 200), .ref (a 213), .int 0, .int 97, .ref (a 214), .ref (a 215), .ref (a 207), .null, .int 0]))] H := hP
    have hD : va_D (va_A [((a 200), f_m a g), ((a 206), .inr (5, [.int 0, .ref (g 100), .int 0]))] s.heap.size) [((a 206), .inr (5, [.int 0, .ref (g 100), .int 0])), ((a 200), .inr (21, [.int 1, .ref (a 201), .ref (a 202), .ref (a 203), .ref (a 204), .ref (a 205), .ref (a 206), .int 0, .int 0, .int 0, .int 0, .ref (a 208), .ref (a 209), .ref (a 210), .ref (a 211), .ref (a 212), .int 4, .int 12, .int (-1), .int 0, .ref (g 200), .ref (a 213), .int 0, .int 97, .ref (a 214), .ref (a 215), .ref (a 207), .null, .int 0]))] := hD
    refine lv_if_eq (tgt := 36) hx hb dX15_setTime_31 (by decide) (fun c_2 => ?_) (fun c_2 => ?_)
    · exact absurd c_2 (by decide)
    · refine lv_iconst (v := 0) hx hb dX15_setTime_34 (by decide) ?_
      have hP9 := hP.sub (ws' := [((a 200), .inr (21, [.int 1, .ref (a 201), .ref (a 202), .ref (a 203), .ref (a 204), .ref (a 205), .ref (a 206), .int 0, .int 0, .int 0, .int 0, .ref (a 208), .ref (a 209), .ref (a 210), .ref (a 211), .ref (a 212), .int 4, .int 12, .int (-1), .int 0, .ref (g 200), .ref (a 213), .int 0, .int 97, .ref (a 214), .ref (a 215), .ref (a 207), .null, .int 0]))]) [1] rfl
      have hD9 := hD.sub (ws' := [((a 200), .inr (21, [.int 1, .ref (a 201), .ref (a 202), .ref (a 203), .ref (a 204), .ref (a 205), .ref (a 206), .int 0, .int 0, .int 0, .int 0, .ref (a 208), .ref (a 209), .ref (a 210), .ref (a 211), .ref (a 212), .int 4, .int 12, .int (-1), .int 0, .ref (g 200), .ref (a 213), .int 0, .int 97, .ref (a 214), .ref (a 215), .ref (a 207), .null, .int 0]))]) [1] (by decide) rfl
      refine W.widen (k := 0) (n := 0) (Nat.le_of_ble_eq_true rfl) (Nat.le_of_ble_eq_true rfl) ?_
      exact W.iret (v := 0) hx hb hr (fun t ht9 hW9 => ⟨⟨0, (), rfl, ⟨rfl, trivial⟩, ⟨(by rw [ht9]; exact hP9), hD9⟩⟩, hS.F ht9⟩) hS.2.2 dX15_setTime_35 hlocks
set_option maxHeartbeats 4000000 in
set_option maxRecDepth 100000 in
theorem k_X15_shortWires (l : Launch) (D : va_G) (g : Nat → ClassId) (z0 sz : Nat) (a : Nat → Nat) (p0 : Int32) (p1 : Int32) : Met l yX15_shortWires (.code yX15_shortWires cX15_shortWires 3 (some .int) :: TG) (rmk 2 0 0 43) (va_Pc [.ref (a 200), .int p0, .int p1] (PP D g z0 sz [((a 200), f_m a g)])) (va_Qi (fun (r : Int32) (u : Unit) => (r = 0) ∧ True) (fun (u : Unit) (t : State) => va_P D vwCl [((a 200), .inr (21, [.int 1, .ref (a 201), .ref (a 202), .ref (a 203), .ref (a 204), .ref (a 205), .ref (a 206), .int 0, .int 0, .int 0, .int 0, .ref (a 208), .ref (a 209), .ref (a 210), .ref (a 211), .ref (a 212), .int 4, .int 12, .int (-1), .int 0, .ref (g 200), .ref (a 213), .int 0, .int 97, .ref (a 214), .ref (a 215), .ref (a 207), .null, .int 0]))] t.heap ∧ va_D (va_A [((a 200), f_m a g)] sz) [((a 200), .inr (21, [.int 1, .ref (a 201), .ref (a 202), .ref (a 203), .ref (a 204), .ref (a 205), .ref (a 206), .int 0, .int 0, .int 0, .int 0, .ref (a 208), .ref (a 209), .ref (a 210), .ref (a 211), .ref (a 212), .int 4, .int 12, .int (-1), .int 0, .ref (g 200), .ref (a 213), .int 0, .int 97, .ref (a 214), .ref (a 215), .ref (a 207), .null, .int 0]))]) (va_A [((a 200), f_m a g)] sz)) 0 0 (va_A [((a 200), f_m a g)] sz) := by
  refine met0 (cc := cX15_shortWires) (n := 3) (by decide) (Nat.le_of_ble_eq_true rfl) ?_
  intro p e s m args below meth c hx hb hr hml hown ht hlocks hnm hP0 hD0 hK hZ hsz hz ls hl
  subst hsz
  have hA : ∀ q : Nat, s.heap.size ≤ q → va_A [((a 200), f_m a g)] s.heap.size q := Anw
  have hAz : ∀ q, va_A [((a 200), f_m a g)] s.heap.size q → z0 ≤ q := Awz hz hD0
  have hS : va_S (va_A [((a 200), f_m a g)] s.heap.size) s.heap s.heap [] := va_S.rf
  have hD : va_D (va_A [((a 200), f_m a g)] s.heap.size) [((a 200), f_m a g)] := hD0.self
  have hP : va_P D vwCl [((a 200), f_m a g)] s.heap := hP0
  have hl : lv_has ls 3 [(0, .ref (a 200)), (1, .int p0), (2, .int p1)] := hl
  refine lv_aload_n hx hb dX15_shortWires_0 rfl (lv_at hl 0 rfl) ?_
  refine lv_aload_n hx hb dX15_shortWires_1 rfl (lv_at hl 0 rfl) ?_
  refine lv_iload_n hx hb dX15_shortWires_2 rfl (lv_at hl 1 rfl) ?_
  have hPc : va_P D vwCl [((a 200), f_m a g)] _ := hP.sub (ws' := [((a 200), f_m a g)]) [0] rfl
  have hDc : va_D (fun q => z0 ≤ q) [((a 200), f_m a g)] := (hD.to hAz).pick (ws' := [((a 200), f_m a g)]) [0] (by decide) rfl
  have hFc := AnA (ws := [((a 200), f_m a g)]) hS.1
  refine va_calli (va_runV (As := [.int p0]) (rest := [.ref (a 200)]) ⟨hx, hb, hml, hown, ht⟩ (k_X15_isWire l D g z0 _ a p0) (cwV 1 ht (gV w_502 w_504 w_505 w_334 w_503) rfl rfl rfl (by decide +kernel) (le2 rfl rfl)) ⟨PP.blind, va_recv hK.1 hP (ci := 21) (q0 := 0) rfl rfl, PP.mk' hK hZ hz hAz hS hPc hDc⟩ rfl rfl hl.1 rfl (lv_room (Nat.le_of_ble_eq_true rfl)) dX15_shortWires_3 (le2 rfl rfl)) hS (fun q _ h => hFc q h) hFc (fun r u t H locs ht1 hvm hw hB hz1 hk1 hS => ?_)
  obtain ⟨rfl, hw⟩ := hw
  have hP := ro1 hP hk1
  refine lv_if_eq (tgt := 17) hx hb dX15_shortWires_6 (by decide) (fun c_1 => ?_) (fun c_1 => ?_)
  · refine lv_iconst (v := 1) hx hb dX15_shortWires_17 (by decide) ?_
    refine lv_goto (tgt := 31) hx hb dX15_shortWires_18 (by decide) ?_
    have hPc : va_P D vwCl [((a 200), f_m a g)] _ := hP.sub (ws' := [((a 200), f_m a g)]) [0] rfl
    have hDc : va_D (fun q => z0 ≤ q) [((a 200), f_m a g)] := (hD.to hAz).pick (ws' := [((a 200), f_m a g)]) [0] (by decide) rfl
    have hFc := va_free (wc := [((a 200), f_m a g)]) hD hS hA [0] rfl
    refine va_calli (va_runV (As := [.int 1]) (rest := []) ⟨hx, hb, hml, hown, ht⟩ (k_X15_isWrong l D g z0 _ a) (cwV 1 ht (gV w_376 w_378 w_379 w_334 w_377) rfl rfl rfl (by decide +kernel) (le2 rfl rfl)) ⟨PP.blind, va_recv hK.1 hP (ci := 21) (q0 := 0) rfl rfl, PP.mk' hK hZ hz hAz hS hPc hDc⟩ rfl rfl hl.1 rfl (lv_room (Nat.le_of_ble_eq_true rfl)) dX15_shortWires_31 (le2 rfl rfl)) hS (fun q _ h => hFc q h) hFc (fun r u t H locs ht1 hvm hw hB hz1 hk1 hS => ?_)
    obtain ⟨rfl, hw⟩ := hw
    obtain ⟨hP1, hD1⟩ := hB
    rw [ht1] at hP1
    obtain ⟨hP, hD⟩ := va_join (wr := []) (w1 := [((a 200), .inr (21, [.int 1, .ref (a 201), .ref (a 202), .ref (a 203), .ref (a 204), .ref (a 205), .ref (a 206), .int 0, .int 0, .int 0, .int 0, .ref (a 208), .ref (a 209), .ref (a 210), .ref (a 211), .ref (a 212), .int 4, .int 12, .int (-1), .int 0, .ref (g 200), .ref (a 213), .int 0, .int 97, .ref (a 214), .ref (a 215), .ref (a 207), .null, .int 0]))]) hP hD [0] [] rfl rfl (by decide) (by decide) hk1 hFc hP1 hD1
    have hP : va_P D vwCl [((a 200), .inr (21, [.int 1, .ref (a 201), .ref (a 202), .ref (a 203), .ref (a 204), .ref (a 205), .ref (a 206), .int 0, .int 0, .int 0, .int 0, .ref (a 208), .ref (a 209), .ref (a 210), .ref (a 211), .ref (a 212), .int 4, .int 12, .int (-1), .int 0, .ref (g 200), .ref (a 213), .int 0, .int 97, .ref (a 214), .ref (a 215), .ref (a 207), .null, .int 0]))] H := hP
    have hD : va_D (va_A [((a 200), f_m a g)] s.heap.size) [((a 200), .inr (21, [.int 1, .ref (a 201), .ref (a 202), .ref (a 203), .ref (a 204), .ref (a 205), .ref (a 206), .int 0, .int 0, .int 0, .int 0, .ref (a 208), .ref (a 209), .ref (a 210), .ref (a 211), .ref (a 212), .int 4, .int 12, .int (-1), .int 0, .ref (g 200), .ref (a 213), .int 0, .int 97, .ref (a 214), .ref (a 215), .ref (a 207), .null, .int 0]))] := hD
    refine lv_if_eq (tgt := 39) hx hb dX15_shortWires_34 (by decide) (fun c_2 => ?_) (fun c_2 => ?_)
    · exact absurd c_2 (by decide)
    · refine lv_iconst (v := 0) hx hb dX15_shortWires_37 (by decide) ?_
      have hP9 := hP.sub (ws' := [((a 200), .inr (21, [.int 1, .ref (a 201), .ref (a 202), .ref (a 203), .ref (a 204), .ref (a 205), .ref (a 206), .int 0, .int 0, .int 0, .int 0, .ref (a 208), .ref (a 209), .ref (a 210), .ref (a 211), .ref (a 212), .int 4, .int 12, .int (-1), .int 0, .ref (g 200), .ref (a 213), .int 0, .int 97, .ref (a 214), .ref (a 215), .ref (a 207), .null, .int 0]))]) [0] rfl
      have hD9 := hD.sub (ws' := [((a 200), .inr (21, [.int 1, .ref (a 201), .ref (a 202), .ref (a 203), .ref (a 204), .ref (a 205), .ref (a 206), .int 0, .int 0, .int 0, .int 0, .ref (a 208), .ref (a 209), .ref (a 210), .ref (a 211), .ref (a 212), .int 4, .int 12, .int (-1), .int 0, .ref (g 200), .ref (a 213), .int 0, .int 97, .ref (a 214), .ref (a 215), .ref (a 207), .null, .int 0]))]) [0] (by decide) rfl
      refine W.widen (k := 0) (n := 0) (Nat.le_of_ble_eq_true rfl) (Nat.le_of_ble_eq_true rfl) ?_
      exact W.iret (v := 0) hx hb hr (fun t ht9 hW9 => ⟨⟨0, (), rfl, ⟨rfl, trivial⟩, ⟨(by rw [ht9]; exact hP9), hD9⟩⟩, hS.F ht9⟩) hS.2.2 dX15_shortWires_38 hlocks
  · exact absurd c_1 (by decide)
set_option maxHeartbeats 4000000 in
set_option maxRecDepth 100000 in
theorem k_X15_signature (l : Launch) (D : va_G) (g : Nat → ClassId) (z0 sz : Nat) (a : Nat → Nat) (p0 : Int32) : Met l yX15_signature (.code yX15_signature cX15_signature 2 (some .int) :: TG) (rmk 4 1 4 79) (va_Pc [.ref (a 200), .int p0] (PP D g z0 sz [((a 200), f_m a g), ((a 206), .inr (5, [.int 0, .ref (g 100), .int 0])), ((a 204), .inr (5, [.int 0, .ref (g 100), .int 0]))])) (va_Qi (fun (r : Int32) (u : Int32) => ((r = 0) ∧ (u = 0) ∧ (p0 = (-1))) ∨ ((r = 0) ∧ (u = 1) ∧ (¬ p0 = (-1)))) (fun (u : Int32) (t : State) => va_P D vwCl [((a 200), .inr (21, [.int u, .ref (a 201), .ref (a 202), .ref (a 203), .ref (a 204), .ref (a 205), .ref (a 206), .int 0, .int 0, .int 0, .int 0, .ref (a 208), .ref (a 209), .ref (a 210), .ref (a 211), .ref (a 212), .int 4, .int 12, .int (-1), .int 0, .ref (g 200), .ref (a 213), .int 0, .int 97, .ref (a 214), .ref (a 215), .ref (a 207), .null, .int 0]))] t.heap ∧ va_D (va_A [((a 200), f_m a g), ((a 206), .inr (5, [.int 0, .ref (g 100), .int 0])), ((a 204), .inr (5, [.int 0, .ref (g 100), .int 0]))] sz) [((a 200), .inr (21, [.int u, .ref (a 201), .ref (a 202), .ref (a 203), .ref (a 204), .ref (a 205), .ref (a 206), .int 0, .int 0, .int 0, .int 0, .ref (a 208), .ref (a 209), .ref (a 210), .ref (a 211), .ref (a 212), .int 4, .int 12, .int (-1), .int 0, .ref (g 200), .ref (a 213), .int 0, .int 97, .ref (a 214), .ref (a 215), .ref (a 207), .null, .int 0]))]) (va_A [((a 200), f_m a g), ((a 206), .inr (5, [.int 0, .ref (g 100), .int 0])), ((a 204), .inr (5, [.int 0, .ref (g 100), .int 0]))] sz)) 1 4 (va_A [((a 200), f_m a g), ((a 206), .inr (5, [.int 0, .ref (g 100), .int 0])), ((a 204), .inr (5, [.int 0, .ref (g 100), .int 0]))] sz) := by
  refine met0 (cc := cX15_signature) (n := 2) (by decide) (Nat.le_of_ble_eq_true rfl) ?_
  intro p e s m args below meth c hx hb hr hml hown ht hlocks hnm hP0 hD0 hK hZ hsz hz ls hl
  subst hsz
  have hA : ∀ q : Nat, s.heap.size ≤ q → va_A [((a 200), f_m a g), ((a 206), .inr (5, [.int 0, .ref (g 100), .int 0])), ((a 204), .inr (5, [.int 0, .ref (g 100), .int 0]))] s.heap.size q := Anw
  have hAz : ∀ q, va_A [((a 200), f_m a g), ((a 206), .inr (5, [.int 0, .ref (g 100), .int 0])), ((a 204), .inr (5, [.int 0, .ref (g 100), .int 0]))] s.heap.size q → z0 ≤ q := Awz hz hD0
  have hS : va_S (va_A [((a 200), f_m a g), ((a 206), .inr (5, [.int 0, .ref (g 100), .int 0])), ((a 204), .inr (5, [.int 0, .ref (g 100), .int 0]))] s.heap.size) s.heap s.heap [] := va_S.rf
  have hD : va_D (va_A [((a 200), f_m a g), ((a 206), .inr (5, [.int 0, .ref (g 100), .int 0])), ((a 204), .inr (5, [.int 0, .ref (g 100), .int 0]))] s.heap.size) [((a 200), f_m a g), ((a 206), .inr (5, [.int 0, .ref (g 100), .int 0])), ((a 204), .inr (5, [.int 0, .ref (g 100), .int 0]))] := hD0.self
  have hP : va_P D vwCl [((a 200), f_m a g), ((a 206), .inr (5, [.int 0, .ref (g 100), .int 0])), ((a 204), .inr (5, [.int 0, .ref (g 100), .int 0]))] s.heap := hP0
  have hl : lv_has ls 2 [(0, .ref (a 200)), (1, .int p0)] := hl
  refine lv_aload_n hx hb dX15_signature_0 rfl (lv_at hl 0 rfl) ?_
  refine lv_iload_n hx hb dX15_signature_1 rfl (lv_at hl 1 rfl) ?_
  refine lv_iconst (v := (-1)) hx hb dX15_signature_2 (by decide) ?_
  refine lv_icmp_eq (tgt := 18) hx hb dX15_signature_3 (by decide) (fun c_1 => ?_) (fun c_1 => ?_)
  · refine lv_iload_n hx hb dX15_signature_18 rfl (lv_at hl 1 rfl) ?_
    refine lv_iconst (v := (-1)) hx hb dX15_signature_19 (by decide) ?_
    refine lv_icmp_eq (tgt := 46) hx hb dX15_signature_20 (by decide) (fun c_2 => ?_) (fun c_2 => ?_)
    · refine lv_iconst (v := 0) hx hb dX15_signature_46 (by decide) ?_
      have hPc : va_P D vwCl [((a 200), f_m a g)] _ := hP.sub (ws' := [((a 200), f_m a g)]) [0] rfl
      have hDc : va_D (fun q => z0 ≤ q) [((a 200), f_m a g)] := (hD.to hAz).pick (ws' := [((a 200), f_m a g)]) [0] (by decide) rfl
      have hFc := va_free (wc := [((a 200), f_m a g)]) hD hS hA [0] rfl
      refine va_calli (va_runV (As := [.int 0]) (rest := []) ⟨hx, hb, hml, hown, ht⟩ (k_X15_isWrong_v1 l D g z0 _ a) (cwV 1 ht (gV w_376 w_378 w_379 w_334 w_377) rfl rfl rfl (by decide +kernel) (le2 rfl rfl)) ⟨PP.blind, va_recv hK.1 hP (ci := 21) (q0 := 0) rfl rfl, PP.mk' hK hZ hz hAz hS hPc hDc⟩ rfl rfl hl.1 rfl (lv_room (Nat.le_of_ble_eq_true rfl)) dX15_signature_47 (le2 rfl rfl)) hS (fun q _ h => hFc q h) hFc (fun r u t H locs ht1 hvm hw hB hz1 hk1 hS => ?_)
      obtain ⟨rfl, hw⟩ := hw
      obtain ⟨hP1, hD1⟩ := hB
      rw [ht1] at hP1
      obtain ⟨hP, hD⟩ := va_join (wr := [((a 206), .inr (5, [.int 0, .ref (g 100), .int 0])), ((a 204), .inr (5, [.int 0, .ref (g 100), .int 0]))]) (w1 := [((a 200), f_m a g)]) hP hD [0] [1, 2] rfl rfl (by decide) (by decide) hk1 hFc hP1 hD1
      have hP : va_P D vwCl [((a 206), .inr (5, [.int 0, .ref (g 100), .int 0])), ((a 204), .inr (5, [.int 0, .ref (g 100), .int 0])), ((a 200), f_m a g)] H := hP
      have hD : va_D (va_A [((a 200), f_m a g), ((a 206), .inr (5, [.int 0, .ref (g 100), .int 0])), ((a 204), .inr (5, [.int 0, .ref (g 100), .int 0]))] s.heap.size) [((a 206), .inr (5, [.int 0, .ref (g 100), .int 0])), ((a 204), .inr (5, [.int 0, .ref (g 100), .int 0])), ((a 200), f_m a g)] := hD
      refine lv_if_eq (tgt := 55) hx hb dX15_signature_50 (by decide) (fun c_3 => ?_) (fun c_3 => ?_)
      · refine lv_aload_n hx hb dX15_signature_55 rfl (lv_at hl 0 rfl) ?_
        refine lv_iload_n hx hb dX15_signature_56 rfl (lv_at hl 1 rfl) ?_
        refine lv_iconst (v := (-1)) hx hb dX15_signature_57 (by decide) ?_
        refine lv_icmp_ne (tgt := 65) hx hb dX15_signature_58 (by decide) (fun c_4 => ?_) (fun c_4 => ?_)
        · exact absurd c_1 c_4
        · refine lv_null hx hb dX15_signature_61 ?_
          refine lv_goto (tgt := 78) hx hb dX15_signature_62 (by decide) ?_
          have hPc : va_P D vwCl [((a 200), f_m a g), ((a 206), .inr (5, [.int 0, .ref (g 100), .int 0]))] _ := hP.sub (ws' := [((a 200), f_m a g), ((a 206), .inr (5, [.int 0, .ref (g 100), .int 0]))]) [2, 0] rfl
          have hDc : va_D (fun q => z0 ≤ q) [((a 200), f_m a g), ((a 206), .inr (5, [.int 0, .ref (g 100), .int 0]))] := (hD.to hAz).pick (ws' := [((a 200), f_m a g), ((a 206), .inr (5, [.int 0, .ref (g 100), .int 0]))]) [2, 0] (by decide) rfl
          have hFc := va_free (wc := [((a 200), f_m a g), ((a 206), .inr (5, [.int 0, .ref (g 100), .int 0]))]) hD hS hA [2, 0] rfl
          refine va_calli (va_runV (As := [.null]) (rest := []) ⟨hx, hb, hml, hown, ht⟩ (k_X15_signed l D g z0 _ a) (cwV 1 ht (gV w_330 w_332 w_333 w_334 w_331) rfl rfl rfl (by decide +kernel) (le2 rfl rfl)) ⟨PP.blind, va_recv hK.1 hP (ci := 21) (q0 := 2) rfl rfl, PP.mk' hK hZ hz hAz hS hPc hDc⟩ rfl rfl hl.1 rfl (lv_room (Nat.le_of_ble_eq_true rfl)) dX15_signature_78 (le2 rfl rfl)) hS (fun q _ h => hFc q h) hFc (fun r u t H locs ht1 hvm hw hB hz1 hk1 hS => ?_)
          obtain ⟨rfl, hw⟩ := hw
          obtain ⟨hP1, hD1⟩ := hB
          rw [ht1] at hP1
          obtain ⟨hP, hD⟩ := va_join (wr := [((a 204), .inr (5, [.int 0, .ref (g 100), .int 0]))]) (w1 := [((a 200), f_m a g), ((a 206), .inr (5, [.int 0, .ref (g 100), .int 0]))]) hP hD [2, 0] [1] rfl rfl (by decide) (by decide) hk1 hFc hP1 hD1
          have hP : va_P D vwCl [((a 204), .inr (5, [.int 0, .ref (g 100), .int 0])), ((a 200), f_m a g), ((a 206), .inr (5, [.int 0, .ref (g 100), .int 0]))] H := hP
          have hD : va_D (va_A [((a 200), f_m a g), ((a 206), .inr (5, [.int 0, .ref (g 100), .int 0])), ((a 204), .inr (5, [.int 0, .ref (g 100), .int 0]))] s.heap.size) [((a 204), .inr (5, [.int 0, .ref (g 100), .int 0])), ((a 200), f_m a g), ((a 206), .inr (5, [.int 0, .ref (g 100), .int 0]))] := hD
          have hP9 := hP.sub (ws' := [((a 200), f_m a g)]) [1] rfl
          have hD9 := hD.sub (ws' := [((a 200), f_m a g)]) [1] (by decide) rfl
          refine W.widen (k := 1) (n := 4) (Nat.le_of_ble_eq_true rfl) (Nat.le_of_ble_eq_true rfl) ?_
          exact W.iret (v := 0) hx hb hr (fun t ht9 hW9 => ⟨⟨0, 0, rfl, (Or.inl ⟨rfl, rfl, c_1⟩), ⟨(by rw [ht9]; exact hP9), hD9⟩⟩, hS.F ht9⟩) hS.2.2 dX15_signature_81 hlocks
      · exact absurd c_3 (by decide)
    · exact absurd c_1 c_2
  · refine lv_aload_n hx hb dX15_signature_6 rfl (lv_at hl 0 rfl) ?_
    refine lv_iload_n hx hb dX15_signature_7 rfl (lv_at hl 1 rfl) ?_
    have hPc : va_P D vwCl [((a 200), f_m a g), ((a 204), .inr (5, [.int 0, .ref (g 100), .int 0]))] _ := hP.sub (ws' := [((a 200), f_m a g), ((a 204), .inr (5, [.int 0, .ref (g 100), .int 0]))]) [0, 2] rfl
    have hDc : va_D (fun q => z0 ≤ q) [((a 200), f_m a g), ((a 204), .inr (5, [.int 0, .ref (g 100), .int 0]))] := (hD.to hAz).pick (ws' := [((a 200), f_m a g), ((a 204), .inr (5, [.int 0, .ref (g 100), .int 0]))]) [0, 2] (by decide) rfl
    have hFc := AnA (ws := [((a 200), f_m a g), ((a 206), .inr (5, [.int 0, .ref (g 100), .int 0])), ((a 204), .inr (5, [.int 0, .ref (g 100), .int 0]))]) hS.1
    refine va_calli (va_runV (As := [.int p0]) (rest := [.ref (a 200)]) ⟨hx, hb, hml, hown, ht⟩ (k_X15_isFault l D g z0 _ a p0) (cwV 1 ht (gV w_372 w_374 w_375 w_334 w_373) rfl rfl rfl (by decide +kernel) (le2 rfl rfl)) ⟨PP.blind, va_recv hK.1 hP (ci := 21) (q0 := 0) rfl rfl, PP.mk' hK hZ hz hAz hS hPc hDc⟩ rfl rfl hl.1 rfl (lv_room (Nat.le_of_ble_eq_true rfl)) dX15_signature_8 (le2 rfl rfl)) hS (fun q _ h => hFc q h) hFc (fun r u t H locs ht1 hvm hw hB hz1 hk1 hS => ?_)
    obtain ⟨rfl, hw⟩ := hw
    have hP := ro1 hP hk1
    refine lv_if_ne (tgt := 18) hx hb dX15_signature_11 (by decide) (fun c_5 => ?_) (fun c_5 => ?_)
    · exact absurd c_5 (by decide)
    · refine lv_iconst (v := 1) hx hb dX15_signature_14 (by decide) ?_
      refine lv_goto (tgt := 47) hx hb dX15_signature_15 (by decide) ?_
      have hPc : va_P D vwCl [((a 200), f_m a g)] _ := hP.sub (ws' := [((a 200), f_m a g)]) [0] rfl
      have hDc : va_D (fun q => z0 ≤ q) [((a 200), f_m a g)] := (hD.to hAz).pick (ws' := [((a 200), f_m a g)]) [0] (by decide) rfl
      have hFc := va_free (wc := [((a 200), f_m a g)]) hD hS hA [0] rfl
      refine va_calli (va_runV (As := [.int 1]) (rest := []) ⟨hx, hb, hml, hown, ht⟩ (k_X15_isWrong l D g z0 _ a) (cwV 1 ht (gV w_376 w_378 w_379 w_334 w_377) rfl rfl rfl (by decide +kernel) (le2 rfl rfl)) ⟨PP.blind, va_recv hK.1 hP (ci := 21) (q0 := 0) rfl rfl, PP.mk' hK hZ hz hAz hS hPc hDc⟩ rfl rfl hl.1 rfl (lv_room (Nat.le_of_ble_eq_true rfl)) dX15_signature_47 (le2 rfl rfl)) hS (fun q _ h => hFc q h) hFc (fun r u t H locs ht1 hvm hw hB hz1 hk1 hS => ?_)
      obtain ⟨rfl, hw⟩ := hw
      obtain ⟨hP1, hD1⟩ := hB
      rw [ht1] at hP1
      obtain ⟨hP, hD⟩ := va_join (wr := [((a 206), .inr (5, [.int 0, .ref (g 100), .int 0])), ((a 204), .inr (5, [.int 0, .ref (g 100), .int 0]))]) (w1 := [((a 200), .inr (21, [.int 1, .ref (a 201), .ref (a 202), .ref (a 203), .ref (a 204), .ref (a 205), .ref (a 206), .int 0, .int 0, .int 0, .int 0, .ref (a 208), .ref (a 209), .ref (a 210), .ref (a 211), .ref (a 212), .int 4, .int 12, .int (-1), .int 0, .ref (g 200), .ref (a 213), .int 0, .int 97, .ref (a 214), .ref (a 215), .ref (a 207), .null, .int 0]))]) hP hD [0] [1, 2] rfl rfl (by decide) (by decide) hk1 hFc hP1 hD1
      have hP : va_P D vwCl [((a 206), .inr (5, [.int 0, .ref (g 100), .int 0])), ((a 204), .inr (5, [.int 0, .ref (g 100), .int 0])), ((a 200), .inr (21, [.int 1, .ref (a 201), .ref (a 202), .ref (a 203), .ref (a 204), .ref (a 205), .ref (a 206), .int 0, .int 0, .int 0, .int 0, .ref (a 208), .ref (a 209), .ref (a 210), .ref (a 211), .ref (a 212), .int 4, .int 12, .int (-1), .int 0, .ref (g 200), .ref (a 213), .int 0, .int 97, .ref (a 214), .ref (a 215), .ref (a 207), .null, .int 0]))] H := hP
      have hD : va_D (va_A [((a 200), f_m a g), ((a 206), .inr (5, [.int 0, .ref (g 100), .int 0])), ((a 204), .inr (5, [.int 0, .ref (g 100), .int 0]))] s.heap.size) [((a 206), .inr (5, [.int 0, .ref (g 100), .int 0])), ((a 204), .inr (5, [.int 0, .ref (g 100), .int 0])), ((a 200), .inr (21, [.int 1, .ref (a 201), .ref (a 202), .ref (a 203), .ref (a 204), .ref (a 205), .ref (a 206), .int 0, .int 0, .int 0, .int 0, .ref (a 208), .ref (a 209), .ref (a 210), .ref (a 211), .ref (a 212), .int 4, .int 12, .int (-1), .int 0, .ref (g 200), .ref (a 213), .int 0, .int 97, .ref (a 214), .ref (a 215), .ref (a 207), .null, .int 0]))] := hD
      refine lv_if_eq (tgt := 55) hx hb dX15_signature_50 (by decide) (fun c_6 => ?_) (fun c_6 => ?_)
      · exact absurd c_6 (by decide)
      · refine lv_iconst (v := 0) hx hb dX15_signature_53 (by decide) ?_
        have hP9 := hP.sub (ws' := [((a 200), .inr (21, [.int 1, .ref (a 201), .ref (a 202), .ref (a 203), .ref (a 204), .ref (a 205), .ref (a 206), .int 0, .int 0, .int 0, .int 0, .ref (a 208), .ref (a 209), .ref (a 210), .ref (a 211), .ref (a 212), .int 4, .int 12, .int (-1), .int 0, .ref (g 200), .ref (a 213), .int 0, .int 97, .ref (a 214), .ref (a 215), .ref (a 207), .null, .int 0]))]) [2] rfl
        have hD9 := hD.sub (ws' := [((a 200), .inr (21, [.int 1, .ref (a 201), .ref (a 202), .ref (a 203), .ref (a 204), .ref (a 205), .ref (a 206), .int 0, .int 0, .int 0, .int 0, .ref (a 208), .ref (a 209), .ref (a 210), .ref (a 211), .ref (a 212), .int 4, .int 12, .int (-1), .int 0, .ref (g 200), .ref (a 213), .int 0, .int 97, .ref (a 214), .ref (a 215), .ref (a 207), .null, .int 0]))]) [2] (by decide) rfl
        refine W.widen (k := 1) (n := 4) (Nat.le_of_ble_eq_true rfl) (Nat.le_of_ble_eq_true rfl) ?_
        exact W.iret (v := 0) hx hb hr (fun t ht9 hW9 => ⟨⟨0, 1, rfl, (Or.inr ⟨rfl, rfl, c_1⟩), ⟨(by rw [ht9]; exact hP9), hD9⟩⟩, hS.F ht9⟩) hS.2.2 dX15_signature_54 hlocks
set_option maxHeartbeats 4000000 in
set_option maxRecDepth 100000 in
theorem k_X15_slow (l : Launch) (D : va_G) (g : Nat → ClassId) (z0 sz : Nat) (a : Nat → Nat) (p0 : Int32) (p1 : Int32) : Met l yX15_slow (.code yX15_slow cX15_slow 3 (some .int) :: TG) (rmk 2 0 0 43) (va_Pc [.ref (a 200), .int p0, .int p1] (PP D g z0 sz [((a 200), f_m a g), ((a 201), .inr (5, [.int 0, .ref (g 100), .int 0]))])) (va_Qi (fun (r : Int32) (u : Unit) => (r = 0) ∧ True) (fun (u : Unit) (t : State) => va_P D vwCl [((a 200), .inr (21, [.int 1, .ref (a 201), .ref (a 202), .ref (a 203), .ref (a 204), .ref (a 205), .ref (a 206), .int 0, .int 0, .int 0, .int 0, .ref (a 208), .ref (a 209), .ref (a 210), .ref (a 211), .ref (a 212), .int 4, .int 12, .int (-1), .int 0, .ref (g 200), .ref (a 213), .int 0, .int 97, .ref (a 214), .ref (a 215), .ref (a 207), .null, .int 0]))] t.heap ∧ va_D (va_A [((a 200), f_m a g), ((a 201), .inr (5, [.int 0, .ref (g 100), .int 0]))] sz) [((a 200), .inr (21, [.int 1, .ref (a 201), .ref (a 202), .ref (a 203), .ref (a 204), .ref (a 205), .ref (a 206), .int 0, .int 0, .int 0, .int 0, .ref (a 208), .ref (a 209), .ref (a 210), .ref (a 211), .ref (a 212), .int 4, .int 12, .int (-1), .int 0, .ref (g 200), .ref (a 213), .int 0, .int 97, .ref (a 214), .ref (a 215), .ref (a 207), .null, .int 0]))]) (va_A [((a 200), f_m a g), ((a 201), .inr (5, [.int 0, .ref (g 100), .int 0]))] sz)) 0 0 (va_A [((a 200), f_m a g), ((a 201), .inr (5, [.int 0, .ref (g 100), .int 0]))] sz) := by
  refine met0 (cc := cX15_slow) (n := 3) (by decide) (Nat.le_of_ble_eq_true rfl) ?_
  intro p e s m args below meth c hx hb hr hml hown ht hlocks hnm hP0 hD0 hK hZ hsz hz ls hl
  subst hsz
  have hA : ∀ q : Nat, s.heap.size ≤ q → va_A [((a 200), f_m a g), ((a 201), .inr (5, [.int 0, .ref (g 100), .int 0]))] s.heap.size q := Anw
  have hAz : ∀ q, va_A [((a 200), f_m a g), ((a 201), .inr (5, [.int 0, .ref (g 100), .int 0]))] s.heap.size q → z0 ≤ q := Awz hz hD0
  have hS : va_S (va_A [((a 200), f_m a g), ((a 201), .inr (5, [.int 0, .ref (g 100), .int 0]))] s.heap.size) s.heap s.heap [] := va_S.rf
  have hD : va_D (va_A [((a 200), f_m a g), ((a 201), .inr (5, [.int 0, .ref (g 100), .int 0]))] s.heap.size) [((a 200), f_m a g), ((a 201), .inr (5, [.int 0, .ref (g 100), .int 0]))] := hD0.self
  have hP : va_P D vwCl [((a 200), f_m a g), ((a 201), .inr (5, [.int 0, .ref (g 100), .int 0]))] s.heap := hP0
  have hl : lv_has ls 3 [(0, .ref (a 200)), (1, .int p0), (2, .int p1)] := hl
  refine lv_aload_n hx hb dX15_slow_0 rfl (lv_at hl 0 rfl) ?_
  refine lv_aload_n hx hb dX15_slow_1 rfl (lv_at hl 0 rfl) ?_
  refine lv_iload_n hx hb dX15_slow_2 rfl (lv_at hl 1 rfl) ?_
  have hPc : va_P D vwCl [((a 200), f_m a g), ((a 201), .inr (5, [.int 0, .ref (g 100), .int 0]))] _ := hP.sub (ws' := [((a 200), f_m a g), ((a 201), .inr (5, [.int 0, .ref (g 100), .int 0]))]) [0, 1] rfl
  have hDc : va_D (fun q => z0 ≤ q) [((a 200), f_m a g), ((a 201), .inr (5, [.int 0, .ref (g 100), .int 0]))] := (hD.to hAz).pick (ws' := [((a 200), f_m a g), ((a 201), .inr (5, [.int 0, .ref (g 100), .int 0]))]) [0, 1] (by decide) rfl
  have hFc := AnA (ws := [((a 200), f_m a g), ((a 201), .inr (5, [.int 0, .ref (g 100), .int 0]))]) hS.1
  refine va_calli (va_runV (As := [.int p0]) (rest := [.ref (a 200)]) ⟨hx, hb, hml, hown, ht⟩ (k_X15_isLine l D g z0 _ a p0) (cwV 1 ht (gV w_429 w_431 w_432 w_334 w_430) rfl rfl rfl (by decide +kernel) (le2 rfl rfl)) ⟨PP.blind, va_recv hK.1 hP (ci := 21) (q0 := 0) rfl rfl, PP.mk' hK hZ hz hAz hS hPc hDc⟩ rfl rfl hl.1 rfl (lv_room (Nat.le_of_ble_eq_true rfl)) dX15_slow_3 (le2 rfl rfl)) hS (fun q _ h => hFc q h) hFc (fun r u t H locs ht1 hvm hw hB hz1 hk1 hS => ?_)
  obtain ⟨rfl, hw⟩ := hw
  have hP := ro1 hP hk1
  refine lv_if_ne (tgt := 13) hx hb dX15_slow_6 (by decide) (fun c_1 => ?_) (fun c_1 => ?_)
  · exact absurd c_1 (by decide)
  · refine lv_iconst (v := 1) hx hb dX15_slow_9 (by decide) ?_
    refine lv_goto (tgt := 38) hx hb dX15_slow_10 (by decide) ?_
    have hPc : va_P D vwCl [((a 200), f_m a g)] _ := hP.sub (ws' := [((a 200), f_m a g)]) [0] rfl
    have hDc : va_D (fun q => z0 ≤ q) [((a 200), f_m a g)] := (hD.to hAz).pick (ws' := [((a 200), f_m a g)]) [0] (by decide) rfl
    have hFc := va_free (wc := [((a 200), f_m a g)]) hD hS hA [0] rfl
    refine va_calli (va_runV (As := [.int 1]) (rest := []) ⟨hx, hb, hml, hown, ht⟩ (k_X15_isWrong l D g z0 _ a) (cwV 1 ht (gV w_376 w_378 w_379 w_334 w_377) rfl rfl rfl (by decide +kernel) (le2 rfl rfl)) ⟨PP.blind, va_recv hK.1 hP (ci := 21) (q0 := 0) rfl rfl, PP.mk' hK hZ hz hAz hS hPc hDc⟩ rfl rfl hl.1 rfl (lv_room (Nat.le_of_ble_eq_true rfl)) dX15_slow_38 (le2 rfl rfl)) hS (fun q _ h => hFc q h) hFc (fun r u t H locs ht1 hvm hw hB hz1 hk1 hS => ?_)
    obtain ⟨rfl, hw⟩ := hw
    obtain ⟨hP1, hD1⟩ := hB
    rw [ht1] at hP1
    obtain ⟨hP, hD⟩ := va_join (wr := [((a 201), .inr (5, [.int 0, .ref (g 100), .int 0]))]) (w1 := [((a 200), .inr (21, [.int 1, .ref (a 201), .ref (a 202), .ref (a 203), .ref (a 204), .ref (a 205), .ref (a 206), .int 0, .int 0, .int 0, .int 0, .ref (a 208), .ref (a 209), .ref (a 210), .ref (a 211), .ref (a 212), .int 4, .int 12, .int (-1), .int 0, .ref (g 200), .ref (a 213), .int 0, .int 97, .ref (a 214), .ref (a 215), .ref (a 207), .null, .int 0]))]) hP hD [0] [1] rfl rfl (by decide) (by decide) hk1 hFc hP1 hD1
    have hP : va_P D vwCl [((a 201), .inr (5, [.int 0, .ref (g 100), .int 0])), ((a 200), .inr (21, [.int 1, .ref (a 201), .ref (a 202), .ref (a 203), .ref (a 204), .ref (a 205), .ref (a 206), .int 0, .int 0, .int 0, .int 0, .ref (a 208), .ref (a 209), .ref (a 210), .ref (a 211), .ref (a 212), .int 4, .int 12, .int (-1), .int 0, .ref (g 200), .ref (a 213), .int 0, .int 97, .ref (a 214), .ref (a 215), .ref (a 207), .null, .int 0]))] H := hP
    have hD : va_D (va_A [((a 200), f_m a g), ((a 201), .inr (5, [.int 0, .ref (g 100), .int 0]))] s.heap.size) [((a 201), .inr (5, [.int 0, .ref (g 100), .int 0])), ((a 200), .inr (21, [.int 1, .ref (a 201), .ref (a 202), .ref (a 203), .ref (a 204), .ref (a 205), .ref (a 206), .int 0, .int 0, .int 0, .int 0, .ref (a 208), .ref (a 209), .ref (a 210), .ref (a 211), .ref (a 212), .int 4, .int 12, .int (-1), .int 0, .ref (g 200), .ref (a 213), .int 0, .int 97, .ref (a 214), .ref (a 215), .ref (a 207), .null, .int 0]))] := hD
    refine lv_if_eq (tgt := 46) hx hb dX15_slow_41 (by decide) (fun c_2 => ?_) (fun c_2 => ?_)
    · exact absurd c_2 (by decide)
    · refine lv_iconst (v := 0) hx hb dX15_slow_44 (by decide) ?_
      have hP9 := hP.sub (ws' := [((a 200), .inr (21, [.int 1, .ref (a 201), .ref (a 202), .ref (a 203), .ref (a 204), .ref (a 205), .ref (a 206), .int 0, .int 0, .int 0, .int 0, .ref (a 208), .ref (a 209), .ref (a 210), .ref (a 211), .ref (a 212), .int 4, .int 12, .int (-1), .int 0, .ref (g 200), .ref (a 213), .int 0, .int 97, .ref (a 214), .ref (a 215), .ref (a 207), .null, .int 0]))]) [1] rfl
      have hD9 := hD.sub (ws' := [((a 200), .inr (21, [.int 1, .ref (a 201), .ref (a 202), .ref (a 203), .ref (a 204), .ref (a 205), .ref (a 206), .int 0, .int 0, .int 0, .int 0, .ref (a 208), .ref (a 209), .ref (a 210), .ref (a 211), .ref (a 212), .int 4, .int 12, .int (-1), .int 0, .ref (g 200), .ref (a 213), .int 0, .int 97, .ref (a 214), .ref (a 215), .ref (a 207), .null, .int 0]))]) [1] (by decide) rfl
      refine W.widen (k := 0) (n := 0) (Nat.le_of_ble_eq_true rfl) (Nat.le_of_ble_eq_true rfl) ?_
      exact W.iret (v := 0) hx hb hr (fun t ht9 hW9 => ⟨⟨0, (), rfl, ⟨rfl, trivial⟩, ⟨(by rw [ht9]; exact hP9), hD9⟩⟩, hS.F ht9⟩) hS.2.2 dX15_slow_45 hlocks
set_option maxHeartbeats 4000000 in
set_option maxRecDepth 100000 in
theorem k_X15_suspects (l : Launch) (D : va_G) (g : Nat → ClassId) (z0 sz : Nat) (a : Nat → Nat) : Met l yX15_suspects (.code yX15_suspects cX15_suspects 5 (some .int) :: TG) (rmk 1 0 0 20) (va_Pc [.ref (a 200)] (PP D g z0 sz [((a 200), f_m a g), ((a 203), .inr (5, [.int 0, .ref (g 100), .int 0]))])) (va_Qi (fun (r : Int32) (u : Unit) => (r = 0) ∧ True) (fun (u : Unit) (t : State) => va_P D vwCl [((a 200), .inr (21, [.int 0, .ref (a 201), .ref (a 202), .ref (a 203), .ref (a 204), .ref (a 205), .ref (a 206), .int 0, .int 0, .int 0, .int 0, .ref (a 208), .ref (a 209), .ref (a 210), .ref (a 211), .ref (a 212), .int 4, .int 12, .int (-1), .int 0, .ref (g 200), .ref (a 213), .int 0, .int 97, .ref (a 214), .ref (a 215), .ref (a 207), .null, .int 0]))] t.heap ∧ va_D (va_A [((a 200), f_m a g), ((a 203), .inr (5, [.int 0, .ref (g 100), .int 0]))] sz) [((a 200), .inr (21, [.int 0, .ref (a 201), .ref (a 202), .ref (a 203), .ref (a 204), .ref (a 205), .ref (a 206), .int 0, .int 0, .int 0, .int 0, .ref (a 208), .ref (a 209), .ref (a 210), .ref (a 211), .ref (a 212), .int 4, .int 12, .int (-1), .int 0, .ref (g 200), .ref (a 213), .int 0, .int 97, .ref (a 214), .ref (a 215), .ref (a 207), .null, .int 0]))]) (va_A [((a 200), f_m a g), ((a 203), .inr (5, [.int 0, .ref (g 100), .int 0]))] sz)) 0 0 (va_A [((a 200), f_m a g), ((a 203), .inr (5, [.int 0, .ref (g 100), .int 0]))] sz) := by
  refine met0 (cc := cX15_suspects) (n := 5) (by decide) (Nat.le_of_ble_eq_true rfl) ?_
  intro p e s m args below meth c hx hb hr hml hown ht hlocks hnm hP0 hD0 hK hZ hsz hz ls hl
  subst hsz
  have hA : ∀ q : Nat, s.heap.size ≤ q → va_A [((a 200), f_m a g), ((a 203), .inr (5, [.int 0, .ref (g 100), .int 0]))] s.heap.size q := Anw
  have hAz : ∀ q, va_A [((a 200), f_m a g), ((a 203), .inr (5, [.int 0, .ref (g 100), .int 0]))] s.heap.size q → z0 ≤ q := Awz hz hD0
  have hS : va_S (va_A [((a 200), f_m a g), ((a 203), .inr (5, [.int 0, .ref (g 100), .int 0]))] s.heap.size) s.heap s.heap [] := va_S.rf
  have hD : va_D (va_A [((a 200), f_m a g), ((a 203), .inr (5, [.int 0, .ref (g 100), .int 0]))] s.heap.size) [((a 200), f_m a g), ((a 203), .inr (5, [.int 0, .ref (g 100), .int 0]))] := hD0.self
  have hP : va_P D vwCl [((a 200), f_m a g), ((a 203), .inr (5, [.int 0, .ref (g 100), .int 0]))] s.heap := hP0
  have hl : lv_has ls 5 [(0, .ref (a 200))] := hl
  refine lv_aload_n hx hb dX15_suspects_0 rfl (lv_at hl 0 rfl) ?_
  refine lv_iconst (v := 0) hx hb dX15_suspects_1 (by decide) ?_
  refine va_put (D := D) (ci := 21) (v := .int 0) (ty := .int) (C := RX15) (T := TX15) (N := 29) hx hb ht in_X15 tyX15 tyX15_ok nmX15 hown hK.1 hP hD hS 0 rfl rfl 0 (by decide) (ht _ w_303) (fun _ h9 => h9) rfl (by decide +kernel) rfl rfl (Nat.le_of_ble_eq_true rfl) dX15_suspects_2 (fun H locs hP hD hS => ?_)
  have hP : va_P D vwCl [((a 200), .inr (21, [.int 0, .ref (a 201), .ref (a 202), .ref (a 203), .ref (a 204), .ref (a 205), .ref (a 206), .int 0, .int 0, .int 0, .int 0, .ref (a 208), .ref (a 209), .ref (a 210), .ref (a 211), .ref (a 212), .int 4, .int 12, .int (-1), .int 0, .ref (g 200), .ref (a 213), .int 0, .int 97, .ref (a 214), .ref (a 215), .ref (a 207), .null, .int 0])), ((a 203), .inr (5, [.int 0, .ref (g 100), .int 0]))] H := hP
  have hD : va_D (va_A [((a 200), f_m a g), ((a 203), .inr (5, [.int 0, .ref (g 100), .int 0]))] s.heap.size) [((a 200), .inr (21, [.int 0, .ref (a 201), .ref (a 202), .ref (a 203), .ref (a 204), .ref (a 205), .ref (a 206), .int 0, .int 0, .int 0, .int 0, .ref (a 208), .ref (a 209), .ref (a 210), .ref (a 211), .ref (a 212), .int 4, .int 12, .int (-1), .int 0, .ref (g 200), .ref (a 213), .int 0, .int 97, .ref (a 214), .ref (a 215), .ref (a 207), .null, .int 0])), ((a 203), .inr (5, [.int 0, .ref (g 100), .int 0]))] := hD
  refine lv_iconst (v := 0) hx hb dX15_suspects_5 (by decide) ?_
  refine lv_istore_n (lv' := [(1, .int 0), (0, .ref (a 200))]) hx hb dX15_suspects_6 rfl hl (by decide) rfl (fun ls hl => ?_)
  refine lv_iconst (v := 0) hx hb dX15_suspects_7 (by decide) ?_
  refine lv_istore_n (lv' := [(2, .int 0), (1, .int 0), (0, .ref (a 200))]) hx hb dX15_suspects_8 rfl hl (by decide) rfl (fun ls hl => ?_)
  refine lv_iload_n hx hb dX15_suspects_9 rfl (lv_at hl 0 rfl) ?_
  refine lv_aload_n hx hb dX15_suspects_10 rfl (lv_at hl 2 rfl) ?_
  refine va_get (D := D) (ci := 21) (v := .ref (a 203)) (C := RX15) (T := TX15) (N := 29) hx hb ht in_X15 hown hK.1 hP 0 rfl rfl 3 (by decide) (ht _ w_382) (fun _ h9 => h9) rfl dX15_suspects_11 ?_
  have hPc : va_P D vwCl [((a 203), .inr (5, [.int 0, .ref (g 100), .int 0]))] _ := hP.sub (ws' := [((a 203), .inr (5, [.int 0, .ref (g 100), .int 0]))]) [1] rfl
  have hDc : va_D (fun q => z0 ≤ q) [((a 203), .inr (5, [.int 0, .ref (g 100), .int 0]))] := (hD.to hAz).pick (ws' := [((a 203), .inr (5, [.int 0, .ref (g 100), .int 0]))]) [1] (by decide) rfl
  have hFc := AnA (ws := [((a 200), f_m a g), ((a 203), .inr (5, [.int 0, .ref (g 100), .int 0]))]) hS.1
  refine va_callFi (va_runF (As := []) (rest := [.int 0]) (hK.1.1 5 _ rfl).2 ⟨hx, hb, hml, hown, ht⟩ (k_Jx4a65c_size_8abf5 l D g z0 _ a (a 203)) (va_cwF 0 ht (gF w_356 w_358 w_359 w_323 w_357) rfl rfl rfl (hK.2.2.2.1 _ (List.mem_of_getElem? (i := 0) rfl)) (by decide +kernel) (le2 rfl rfl)) ⟨PP.blind, va_recv hK.1 hP (ci := 5) (q0 := 1) rfl rfl, PP.mk' hK hZ hz hAz hS hPc hDc⟩ rfl rfl hl.1 rfl (lv_room (Nat.le_of_ble_eq_true rfl)) dX15_suspects_14 (le2 rfl rfl)) hS (fun q _ h => hFc q h) hFc (fun r u t H locs ht1 hvm hw hB hz1 hk1 hS => ?_)
  obtain ⟨rfl, hw⟩ := hw
  have hP := ro1 hP hk1
  refine lv_icmp_ge (tgt := 98) hx hb dX15_suspects_19 (by decide) (fun c_1 => ?_) (fun c_1 => ?_)
  · refine lv_iload_n hx hb dX15_suspects_98 rfl (lv_at hl 1 rfl) ?_
    have hP9 := hP.sub (ws' := [((a 200), .inr (21, [.int 0, .ref (a 201), .ref (a 202), .ref (a 203), .ref (a 204), .ref (a 205), .ref (a 206), .int 0, .int 0, .int 0, .int 0, .ref (a 208), .ref (a 209), .ref (a 210), .ref (a 211), .ref (a 212), .int 4, .int 12, .int (-1), .int 0, .ref (g 200), .ref (a 213), .int 0, .int 97, .ref (a 214), .ref (a 215), .ref (a 207), .null, .int 0]))]) [0] rfl
    have hD9 := hD.sub (ws' := [((a 200), .inr (21, [.int 0, .ref (a 201), .ref (a 202), .ref (a 203), .ref (a 204), .ref (a 205), .ref (a 206), .int 0, .int 0, .int 0, .int 0, .ref (a 208), .ref (a 209), .ref (a 210), .ref (a 211), .ref (a 212), .int 4, .int 12, .int (-1), .int 0, .ref (g 200), .ref (a 213), .int 0, .int 97, .ref (a 214), .ref (a 215), .ref (a 207), .null, .int 0]))]) [0] (by decide) rfl
    refine W.widen (k := 0) (n := 0) (Nat.le_of_ble_eq_true rfl) (Nat.le_of_ble_eq_true rfl) ?_
    exact W.iret (v := 0) hx hb hr (fun t ht9 hW9 => ⟨⟨0, (), rfl, ⟨rfl, trivial⟩, ⟨(by rw [ht9]; exact hP9), hD9⟩⟩, hS.F ht9⟩) hS.2.2 dX15_suspects_99 hlocks
  · exact absurd c_1 (by decide)
set_option maxHeartbeats 4000000 in
set_option maxRecDepth 100000 in
theorem k_X15_tally (l : Launch) (D : va_G) (g : Nat → ClassId) (z0 sz : Nat) (a : Nat → Nat) (p0 : Int32) : Met l yX15_tally (.code yX15_tally cX15_tally 3 (some .int) :: TG) (rmk 3 0 0 64) (va_Pc [.ref (a 200), .int p0] (PP D g z0 sz [((a 200), f_m a g), ((a 204), .inr (5, [.int 0, .ref (g 100), .int 0]))])) (va_Qi (fun (r : Int32) (u : Unit) => (r = 0) ∧ True) (fun (u : Unit) (t : State) => va_P D vwCl [((a 200), .inr (21, [.int 1, .ref (a 201), .ref (a 202), .ref (a 203), .ref (a 204), .ref (a 205), .ref (a 206), .int 0, .int 0, .int 0, .int 0, .ref (a 208), .ref (a 209), .ref (a 210), .ref (a 211), .ref (a 212), .int 4, .int 12, .int (-1), .int 0, .ref (g 200), .ref (a 213), .int 0, .int 97, .ref (a 214), .ref (a 215), .ref (a 207), .null, .int 0]))] t.heap ∧ va_D (va_A [((a 200), f_m a g), ((a 204), .inr (5, [.int 0, .ref (g 100), .int 0]))] sz) [((a 200), .inr (21, [.int 1, .ref (a 201), .ref (a 202), .ref (a 203), .ref (a 204), .ref (a 205), .ref (a 206), .int 0, .int 0, .int 0, .int 0, .ref (a 208), .ref (a 209), .ref (a 210), .ref (a 211), .ref (a 212), .int 4, .int 12, .int (-1), .int 0, .ref (g 200), .ref (a 213), .int 0, .int 97, .ref (a 214), .ref (a 215), .ref (a 207), .null, .int 0]))]) (va_A [((a 200), f_m a g), ((a 204), .inr (5, [.int 0, .ref (g 100), .int 0]))] sz)) 0 0 (va_A [((a 200), f_m a g), ((a 204), .inr (5, [.int 0, .ref (g 100), .int 0]))] sz) := by
  refine met0 (cc := cX15_tally) (n := 3) (by decide) (Nat.le_of_ble_eq_true rfl) ?_
  intro p e s m args below meth c hx hb hr hml hown ht hlocks hnm hP0 hD0 hK hZ hsz hz ls hl
  subst hsz
  have hA : ∀ q : Nat, s.heap.size ≤ q → va_A [((a 200), f_m a g), ((a 204), .inr (5, [.int 0, .ref (g 100), .int 0]))] s.heap.size q := Anw
  have hAz : ∀ q, va_A [((a 200), f_m a g), ((a 204), .inr (5, [.int 0, .ref (g 100), .int 0]))] s.heap.size q → z0 ≤ q := Awz hz hD0
  have hS : va_S (va_A [((a 200), f_m a g), ((a 204), .inr (5, [.int 0, .ref (g 100), .int 0]))] s.heap.size) s.heap s.heap [] := va_S.rf
  have hD : va_D (va_A [((a 200), f_m a g), ((a 204), .inr (5, [.int 0, .ref (g 100), .int 0]))] s.heap.size) [((a 200), f_m a g), ((a 204), .inr (5, [.int 0, .ref (g 100), .int 0]))] := hD0.self
  have hP : va_P D vwCl [((a 200), f_m a g), ((a 204), .inr (5, [.int 0, .ref (g 100), .int 0]))] s.heap := hP0
  have hl : lv_has ls 3 [(0, .ref (a 200)), (1, .int p0)] := hl
  refine lv_aload_n hx hb dX15_tally_0 rfl (lv_at hl 0 rfl) ?_
  refine lv_iload_n hx hb dX15_tally_1 rfl (lv_at hl 1 rfl) ?_
  have hPc : va_P D vwCl [((a 200), f_m a g), ((a 204), .inr (5, [.int 0, .ref (g 100), .int 0]))] _ := hP.sub (ws' := [((a 200), f_m a g), ((a 204), .inr (5, [.int 0, .ref (g 100), .int 0]))]) [0, 1] rfl
  have hDc : va_D (fun q => z0 ≤ q) [((a 200), f_m a g), ((a 204), .inr (5, [.int 0, .ref (g 100), .int 0]))] := (hD.to hAz).pick (ws' := [((a 200), f_m a g), ((a 204), .inr (5, [.int 0, .ref (g 100), .int 0]))]) [0, 1] (by decide) rfl
  have hFc := va_free (wc := [((a 200), f_m a g), ((a 204), .inr (5, [.int 0, .ref (g 100), .int 0]))]) hD hS hA [0, 1] rfl
  refine va_calli (va_runV (As := [.int p0]) (rest := []) ⟨hx, hb, hml, hown, ht⟩ (k_X15_isNoStuck l D g z0 _ a p0) (cwV 1 ht (gV w_384 w_386 w_387 w_334 w_385) rfl rfl rfl (by decide +kernel) (le2 rfl rfl)) ⟨PP.blind, va_recv hK.1 hP (ci := 21) (q0 := 0) rfl rfl, PP.mk' hK hZ hz hAz hS hPc hDc⟩ rfl rfl hl.1 rfl (lv_room (Nat.le_of_ble_eq_true rfl)) dX15_tally_2 (le2 rfl rfl)) hS (fun q _ h => hFc q h) hFc (fun r u t H locs ht1 hvm hw hB hz1 hk1 hS => ?_)
  obtain ⟨rfl, hw⟩ := hw
  obtain ⟨hP1, hD1⟩ := hB
  rw [ht1] at hP1
  obtain ⟨hP, hD⟩ := va_join (wr := []) (w1 := [((a 204), .inr (5, [.int 0, .ref (g 100), .int 0])), ((a 200), .inr (21, [.int 1, .ref (a 201), .ref (a 202), .ref (a 203), .ref (a 204), .ref (a 205), .ref (a 206), .int 0, .int 0, .int 0, .int 0, .ref (a 208), .ref (a 209), .ref (a 210), .ref (a 211), .ref (a 212), .int 4, .int 12, .int (-1), .int 0, .ref (g 200), .ref (a 213), .int 0, .int 97, .ref (a 214), .ref (a 215), .ref (a 207), .null, .int 0]))]) hP hD [0, 1] [] rfl rfl (by decide) (by decide) hk1 hFc hP1 hD1
  have hP : va_P D vwCl [((a 204), .inr (5, [.int 0, .ref (g 100), .int 0])), ((a 200), .inr (21, [.int 1, .ref (a 201), .ref (a 202), .ref (a 203), .ref (a 204), .ref (a 205), .ref (a 206), .int 0, .int 0, .int 0, .int 0, .ref (a 208), .ref (a 209), .ref (a 210), .ref (a 211), .ref (a 212), .int 4, .int 12, .int (-1), .int 0, .ref (g 200), .ref (a 213), .int 0, .int 97, .ref (a 214), .ref (a 215), .ref (a 207), .null, .int 0]))] H := hP
  have hD : va_D (va_A [((a 200), f_m a g), ((a 204), .inr (5, [.int 0, .ref (g 100), .int 0]))] s.heap.size) [((a 204), .inr (5, [.int 0, .ref (g 100), .int 0])), ((a 200), .inr (21, [.int 1, .ref (a 201), .ref (a 202), .ref (a 203), .ref (a 204), .ref (a 205), .ref (a 206), .int 0, .int 0, .int 0, .int 0, .ref (a 208), .ref (a 209), .ref (a 210), .ref (a 211), .ref (a 212), .int 4, .int 12, .int (-1), .int 0, .ref (g 200), .ref (a 213), .int 0, .int 97, .ref (a 214), .ref (a 215), .ref (a 207), .null, .int 0]))] := hD
  refine lv_if_eq (tgt := 10) hx hb dX15_tally_5 (by decide) (fun c_1 => ?_) (fun c_1 => ?_)
  · exact absurd c_1 (by decide)
  · refine lv_iconst (v := 0) hx hb dX15_tally_8 (by decide) ?_
    have hP9 := hP.sub (ws' := [((a 200), .inr (21, [.int 1, .ref (a 201), .ref (a 202), .ref (a 203), .ref (a 204), .ref (a 205), .ref (a 206), .int 0, .int 0, .int 0, .int 0, .ref (a 208), .ref (a 209), .ref (a 210), .ref (a 211), .ref (a 212), .int 4, .int 12, .int (-1), .int 0, .ref (g 200), .ref (a 213), .int 0, .int 97, .ref (a 214), .ref (a 215), .ref (a 207), .null, .int 0]))]) [1] rfl
    have hD9 := hD.sub (ws' := [((a 200), .inr (21, [.int 1, .ref (a 201), .ref (a 202), .ref (a 203), .ref (a 204), .ref (a 205), .ref (a 206), .int 0, .int 0, .int 0, .int 0, .ref (a 208), .ref (a 209), .ref (a 210), .ref (a 211), .ref (a 212), .int 4, .int 12, .int (-1), .int 0, .ref (g 200), .ref (a 213), .int 0, .int 97, .ref (a 214), .ref (a 215), .ref (a 207), .null, .int 0]))]) [1] (by decide) rfl
    refine W.widen (k := 0) (n := 0) (Nat.le_of_ble_eq_true rfl) (Nat.le_of_ble_eq_true rfl) ?_
    exact W.iret (v := 0) hx hb hr (fun t ht9 hW9 => ⟨⟨0, (), rfl, ⟨rfl, trivial⟩, ⟨(by rw [ht9]; exact hP9), hD9⟩⟩, hS.F ht9⟩) hS.2.2 dX15_tally_9 hlocks
set_option maxHeartbeats 4000000 in
set_option maxRecDepth 100000 in
theorem k_X15_testPoint (l : Launch) (D : va_G) (g : Nat → ClassId) (z0 sz : Nat) (a : Nat → Nat) (p0 : Int32) : Met l yX15_testPoint (.code yX15_testPoint cX15_testPoint 4 (some .int) :: TG) (rmk 2 0 0 43) (va_Pc [.ref (a 200), .int p0] (PP D g z0 sz [((a 200), f_m a g), ((a 201), .inr (5, [.int 0, .ref (g 100), .int 0]))])) (va_Qi (fun (r : Int32) (u : Unit) => (r = 0) ∧ True) (fun (u : Unit) (t : State) => va_P D vwCl [((a 200), .inr (21, [.int 1, .ref (a 201), .ref (a 202), .ref (a 203), .ref (a 204), .ref (a 205), .ref (a 206), .int 0, .int 0, .int 0, .int 0, .ref (a 208), .ref (a 209), .ref (a 210), .ref (a 211), .ref (a 212), .int 4, .int 12, .int (-1), .int 0, .ref (g 200), .ref (a 213), .int 0, .int 97, .ref (a 214), .ref (a 215), .ref (a 207), .null, .int 0]))] t.heap ∧ va_D (va_A [((a 200), f_m a g), ((a 201), .inr (5, [.int 0, .ref (g 100), .int 0]))] sz) [((a 200), .inr (21, [.int 1, .ref (a 201), .ref (a 202), .ref (a 203), .ref (a 204), .ref (a 205), .ref (a 206), .int 0, .int 0, .int 0, .int 0, .ref (a 208), .ref (a 209), .ref (a 210), .ref (a 211), .ref (a 212), .int 4, .int 12, .int (-1), .int 0, .ref (g 200), .ref (a 213), .int 0, .int 97, .ref (a 214), .ref (a 215), .ref (a 207), .null, .int 0]))]) (va_A [((a 200), f_m a g), ((a 201), .inr (5, [.int 0, .ref (g 100), .int 0]))] sz)) 0 0 (va_A [((a 200), f_m a g), ((a 201), .inr (5, [.int 0, .ref (g 100), .int 0]))] sz) := by
  refine met0 (cc := cX15_testPoint) (n := 4) (by decide) (Nat.le_of_ble_eq_true rfl) ?_
  intro p e s m args below meth c hx hb hr hml hown ht hlocks hnm hP0 hD0 hK hZ hsz hz ls hl
  subst hsz
  have hA : ∀ q : Nat, s.heap.size ≤ q → va_A [((a 200), f_m a g), ((a 201), .inr (5, [.int 0, .ref (g 100), .int 0]))] s.heap.size q := Anw
  have hAz : ∀ q, va_A [((a 200), f_m a g), ((a 201), .inr (5, [.int 0, .ref (g 100), .int 0]))] s.heap.size q → z0 ≤ q := Awz hz hD0
  have hS : va_S (va_A [((a 200), f_m a g), ((a 201), .inr (5, [.int 0, .ref (g 100), .int 0]))] s.heap.size) s.heap s.heap [] := va_S.rf
  have hD : va_D (va_A [((a 200), f_m a g), ((a 201), .inr (5, [.int 0, .ref (g 100), .int 0]))] s.heap.size) [((a 200), f_m a g), ((a 201), .inr (5, [.int 0, .ref (g 100), .int 0]))] := hD0.self
  have hP : va_P D vwCl [((a 200), f_m a g), ((a 201), .inr (5, [.int 0, .ref (g 100), .int 0]))] s.heap := hP0
  have hl : lv_has ls 4 [(0, .ref (a 200)), (1, .int p0)] := hl
  refine lv_aload_n hx hb dX15_testPoint_0 rfl (lv_at hl 0 rfl) ?_
  refine lv_aload_n hx hb dX15_testPoint_1 rfl (lv_at hl 0 rfl) ?_
  refine lv_iload_n hx hb dX15_testPoint_2 rfl (lv_at hl 1 rfl) ?_
  have hPc : va_P D vwCl [((a 200), f_m a g), ((a 201), .inr (5, [.int 0, .ref (g 100), .int 0]))] _ := hP.sub (ws' := [((a 200), f_m a g), ((a 201), .inr (5, [.int 0, .ref (g 100), .int 0]))]) [0, 1] rfl
  have hDc : va_D (fun q => z0 ≤ q) [((a 200), f_m a g), ((a 201), .inr (5, [.int 0, .ref (g 100), .int 0]))] := (hD.to hAz).pick (ws' := [((a 200), f_m a g), ((a 201), .inr (5, [.int 0, .ref (g 100), .int 0]))]) [0, 1] (by decide) rfl
  have hFc := AnA (ws := [((a 200), f_m a g), ((a 201), .inr (5, [.int 0, .ref (g 100), .int 0]))]) hS.1
  refine va_calli (va_runV (As := [.int p0]) (rest := [.ref (a 200)]) ⟨hx, hb, hml, hown, ht⟩ (k_X15_isLine l D g z0 _ a p0) (cwV 1 ht (gV w_429 w_431 w_432 w_334 w_430) rfl rfl rfl (by decide +kernel) (le2 rfl rfl)) ⟨PP.blind, va_recv hK.1 hP (ci := 21) (q0 := 0) rfl rfl, PP.mk' hK hZ hz hAz hS hPc hDc⟩ rfl rfl hl.1 rfl (lv_room (Nat.le_of_ble_eq_true rfl)) dX15_testPoint_3 (le2 rfl rfl)) hS (fun q _ h => hFc q h) hFc (fun r u t H locs ht1 hvm hw hB hz1 hk1 hS => ?_)
  obtain ⟨rfl, hw⟩ := hw
  have hP := ro1 hP hk1
  refine lv_if_ne (tgt := 13) hx hb dX15_testPoint_6 (by decide) (fun c_1 => ?_) (fun c_1 => ?_)
  · exact absurd c_1 (by decide)
  · refine lv_iconst (v := 1) hx hb dX15_testPoint_9 (by decide) ?_
    refine lv_goto (tgt := 25) hx hb dX15_testPoint_10 (by decide) ?_
    have hPc : va_P D vwCl [((a 200), f_m a g)] _ := hP.sub (ws' := [((a 200), f_m a g)]) [0] rfl
    have hDc : va_D (fun q => z0 ≤ q) [((a 200), f_m a g)] := (hD.to hAz).pick (ws' := [((a 200), f_m a g)]) [0] (by decide) rfl
    have hFc := va_free (wc := [((a 200), f_m a g)]) hD hS hA [0] rfl
    refine va_calli (va_runV (As := [.int 1]) (rest := []) ⟨hx, hb, hml, hown, ht⟩ (k_X15_isWrong l D g z0 _ a) (cwV 1 ht (gV w_376 w_378 w_379 w_334 w_377) rfl rfl rfl (by decide +kernel) (le2 rfl rfl)) ⟨PP.blind, va_recv hK.1 hP (ci := 21) (q0 := 0) rfl rfl, PP.mk' hK hZ hz hAz hS hPc hDc⟩ rfl rfl hl.1 rfl (lv_room (Nat.le_of_ble_eq_true rfl)) dX15_testPoint_25 (le2 rfl rfl)) hS (fun q _ h => hFc q h) hFc (fun r u t H locs ht1 hvm hw hB hz1 hk1 hS => ?_)
    obtain ⟨rfl, hw⟩ := hw
    obtain ⟨hP1, hD1⟩ := hB
    rw [ht1] at hP1
    obtain ⟨hP, hD⟩ := va_join (wr := [((a 201), .inr (5, [.int 0, .ref (g 100), .int 0]))]) (w1 := [((a 200), .inr (21, [.int 1, .ref (a 201), .ref (a 202), .ref (a 203), .ref (a 204), .ref (a 205), .ref (a 206), .int 0, .int 0, .int 0, .int 0, .ref (a 208), .ref (a 209), .ref (a 210), .ref (a 211), .ref (a 212), .int 4, .int 12, .int (-1), .int 0, .ref (g 200), .ref (a 213), .int 0, .int 97, .ref (a 214), .ref (a 215), .ref (a 207), .null, .int 0]))]) hP hD [0] [1] rfl rfl (by decide) (by decide) hk1 hFc hP1 hD1
    have hP : va_P D vwCl [((a 201), .inr (5, [.int 0, .ref (g 100), .int 0])), ((a 200), .inr (21, [.int 1, .ref (a 201), .ref (a 202), .ref (a 203), .ref (a 204), .ref (a 205), .ref (a 206), .int 0, .int 0, .int 0, .int 0, .ref (a 208), .ref (a 209), .ref (a 210), .ref (a 211), .ref (a 212), .int 4, .int 12, .int (-1), .int 0, .ref (g 200), .ref (a 213), .int 0, .int 97, .ref (a 214), .ref (a 215), .ref (a 207), .null, .int 0]))] H := hP
    have hD : va_D (va_A [((a 200), f_m a g), ((a 201), .inr (5, [.int 0, .ref (g 100), .int 0]))] s.heap.size) [((a 201), .inr (5, [.int 0, .ref (g 100), .int 0])), ((a 200), .inr (21, [.int 1, .ref (a 201), .ref (a 202), .ref (a 203), .ref (a 204), .ref (a 205), .ref (a 206), .int 0, .int 0, .int 0, .int 0, .ref (a 208), .ref (a 209), .ref (a 210), .ref (a 211), .ref (a 212), .int 4, .int 12, .int (-1), .int 0, .ref (g 200), .ref (a 213), .int 0, .int 97, .ref (a 214), .ref (a 215), .ref (a 207), .null, .int 0]))] := hD
    refine lv_if_eq (tgt := 33) hx hb dX15_testPoint_28 (by decide) (fun c_2 => ?_) (fun c_2 => ?_)
    · exact absurd c_2 (by decide)
    · refine lv_iconst (v := 0) hx hb dX15_testPoint_31 (by decide) ?_
      have hP9 := hP.sub (ws' := [((a 200), .inr (21, [.int 1, .ref (a 201), .ref (a 202), .ref (a 203), .ref (a 204), .ref (a 205), .ref (a 206), .int 0, .int 0, .int 0, .int 0, .ref (a 208), .ref (a 209), .ref (a 210), .ref (a 211), .ref (a 212), .int 4, .int 12, .int (-1), .int 0, .ref (g 200), .ref (a 213), .int 0, .int 97, .ref (a 214), .ref (a 215), .ref (a 207), .null, .int 0]))]) [1] rfl
      have hD9 := hD.sub (ws' := [((a 200), .inr (21, [.int 1, .ref (a 201), .ref (a 202), .ref (a 203), .ref (a 204), .ref (a 205), .ref (a 206), .int 0, .int 0, .int 0, .int 0, .ref (a 208), .ref (a 209), .ref (a 210), .ref (a 211), .ref (a 212), .int 4, .int 12, .int (-1), .int 0, .ref (g 200), .ref (a 213), .int 0, .int 97, .ref (a 214), .ref (a 215), .ref (a 207), .null, .int 0]))]) [1] (by decide) rfl
      refine W.widen (k := 0) (n := 0) (Nat.le_of_ble_eq_true rfl) (Nat.le_of_ble_eq_true rfl) ?_
      exact W.iret (v := 0) hx hb hr (fun t ht9 hW9 => ⟨⟨0, (), rfl, ⟨rfl, trivial⟩, ⟨(by rw [ht9]; exact hP9), hD9⟩⟩, hS.F ht9⟩) hS.2.2 dX15_testPoint_32 hlocks
set_option maxHeartbeats 4000000 in
set_option maxRecDepth 100000 in
theorem k_X15_thrown (l : Launch) (D : va_G) (g : Nat → ClassId) (z0 sz : Nat) (a : Nat → Nat) : Met l yX15_thrown (.code yX15_thrown cX15_thrown 1 (some .int) :: TG) (rmk 0 0 0 0) (va_Pc [.ref (a 200)] (PP D g z0 sz [((a 200), f_m a g)])) (va_Qi (fun (r : Int32) (u : Unit) => (r = 0) ∧ True) (fun (u : Unit) (t : State) => va_P D vwCl [((a 200), f_m a g)] t.heap ∧ va_D (va_A [((a 200), f_m a g)] sz) [((a 200), f_m a g)]) (va_A [((a 200), f_m a g)] sz)) 0 0 (va_A [((a 200), f_m a g)] sz) := by
  refine met0 (cc := cX15_thrown) (n := 1) (by decide) (Nat.le_of_ble_eq_true rfl) ?_
  intro p e s m args below meth c hx hb hr hml hown ht hlocks hnm hP0 hD0 hK hZ hsz hz ls hl
  subst hsz
  have hA : ∀ q : Nat, s.heap.size ≤ q → va_A [((a 200), f_m a g)] s.heap.size q := Anw
  have hAz : ∀ q, va_A [((a 200), f_m a g)] s.heap.size q → z0 ≤ q := Awz hz hD0
  have hS : va_S (va_A [((a 200), f_m a g)] s.heap.size) s.heap s.heap [] := va_S.rf
  have hD : va_D (va_A [((a 200), f_m a g)] s.heap.size) [((a 200), f_m a g)] := hD0.self
  have hP : va_P D vwCl [((a 200), f_m a g)] s.heap := hP0
  have hl : lv_has ls 1 [(0, .ref (a 200))] := hl
  refine lv_aload_n hx hb dX15_thrown_0 rfl (lv_at hl 0 rfl) ?_
  refine va_get (D := D) (ci := 21) (v := .int 0) (C := RX15) (T := TX15) (N := 29) hx hb ht in_X15 hown hK.1 hP 0 rfl rfl 0 (by decide) (ht _ w_303) (fun _ h9 => h9) rfl dX15_thrown_1 ?_
  have hP9 := hP.sub (ws' := [((a 200), f_m a g)]) [0] rfl
  have hD9 := hD.sub (ws' := [((a 200), f_m a g)]) [0] (by decide) rfl
  refine W.widen (k := 0) (n := 0) (Nat.le_of_ble_eq_true rfl) (Nat.le_of_ble_eq_true rfl) ?_
  exact W.iret (v := 0) hx hb hr (fun t ht9 hW9 => ⟨⟨0, (), rfl, ⟨rfl, trivial⟩, ⟨(by rw [ht9]; exact hP9), hD9⟩⟩, hS.F ht9⟩) hS.2.2 dX15_thrown_4 hlocks
set_option maxHeartbeats 4000000 in
set_option maxRecDepth 100000 in
theorem k_X15_tie (l : Launch) (D : va_G) (g : Nat → ClassId) (z0 sz : Nat) (a : Nat → Nat) (p0 : Int32) : Met l yX15_tie (.code yX15_tie cX15_tie 6 (some .int) :: TG) (rmk 2 0 0 43) (va_Pc [.ref (a 200), .int p0] (PP D g z0 sz [((a 200), f_m a g), ((a 204), .inr (5, [.int 0, .ref (g 100), .int 0]))])) (va_Qi (fun (r : Int32) (u : Unit) => (r = 0) ∧ True) (fun (u : Unit) (t : State) => va_P D vwCl [((a 200), .inr (21, [.int 1, .ref (a 201), .ref (a 202), .ref (a 203), .ref (a 204), .ref (a 205), .ref (a 206), .int 0, .int 0, .int 0, .int 0, .ref (a 208), .ref (a 209), .ref (a 210), .ref (a 211), .ref (a 212), .int 4, .int 12, .int (-1), .int 0, .ref (g 200), .ref (a 213), .int 0, .int 97, .ref (a 214), .ref (a 215), .ref (a 207), .null, .int 0]))] t.heap ∧ va_D (va_A [((a 200), f_m a g), ((a 204), .inr (5, [.int 0, .ref (g 100), .int 0]))] sz) [((a 200), .inr (21, [.int 1, .ref (a 201), .ref (a 202), .ref (a 203), .ref (a 204), .ref (a 205), .ref (a 206), .int 0, .int 0, .int 0, .int 0, .ref (a 208), .ref (a 209), .ref (a 210), .ref (a 211), .ref (a 212), .int 4, .int 12, .int (-1), .int 0, .ref (g 200), .ref (a 213), .int 0, .int 97, .ref (a 214), .ref (a 215), .ref (a 207), .null, .int 0]))]) (va_A [((a 200), f_m a g), ((a 204), .inr (5, [.int 0, .ref (g 100), .int 0]))] sz)) 0 0 (va_A [((a 200), f_m a g), ((a 204), .inr (5, [.int 0, .ref (g 100), .int 0]))] sz) := by
  refine met0 (cc := cX15_tie) (n := 6) (by decide) (Nat.le_of_ble_eq_true rfl) ?_
  intro p e s m args below meth c hx hb hr hml hown ht hlocks hnm hP0 hD0 hK hZ hsz hz ls hl
  subst hsz
  have hA : ∀ q : Nat, s.heap.size ≤ q → va_A [((a 200), f_m a g), ((a 204), .inr (5, [.int 0, .ref (g 100), .int 0]))] s.heap.size q := Anw
  have hAz : ∀ q, va_A [((a 200), f_m a g), ((a 204), .inr (5, [.int 0, .ref (g 100), .int 0]))] s.heap.size q → z0 ≤ q := Awz hz hD0
  have hS : va_S (va_A [((a 200), f_m a g), ((a 204), .inr (5, [.int 0, .ref (g 100), .int 0]))] s.heap.size) s.heap s.heap [] := va_S.rf
  have hD : va_D (va_A [((a 200), f_m a g), ((a 204), .inr (5, [.int 0, .ref (g 100), .int 0]))] s.heap.size) [((a 200), f_m a g), ((a 204), .inr (5, [.int 0, .ref (g 100), .int 0]))] := hD0.self
  have hP : va_P D vwCl [((a 200), f_m a g), ((a 204), .inr (5, [.int 0, .ref (g 100), .int 0]))] s.heap := hP0
  have hl : lv_has ls 6 [(0, .ref (a 200)), (1, .int p0)] := hl
  refine lv_aload_n hx hb dX15_tie_0 rfl (lv_at hl 0 rfl) ?_
  refine lv_aload_n hx hb dX15_tie_1 rfl (lv_at hl 0 rfl) ?_
  refine lv_iload_n hx hb dX15_tie_2 rfl (lv_at hl 1 rfl) ?_
  have hPc : va_P D vwCl [((a 200), f_m a g), ((a 204), .inr (5, [.int 0, .ref (g 100), .int 0]))] _ := hP.sub (ws' := [((a 200), f_m a g), ((a 204), .inr (5, [.int 0, .ref (g 100), .int 0]))]) [0, 1] rfl
  have hDc : va_D (fun q => z0 ≤ q) [((a 200), f_m a g), ((a 204), .inr (5, [.int 0, .ref (g 100), .int 0]))] := (hD.to hAz).pick (ws' := [((a 200), f_m a g), ((a 204), .inr (5, [.int 0, .ref (g 100), .int 0]))]) [0, 1] (by decide) rfl
  have hFc := AnA (ws := [((a 200), f_m a g), ((a 204), .inr (5, [.int 0, .ref (g 100), .int 0]))]) hS.1
  refine va_calli (va_runV (As := [.int p0]) (rest := [.ref (a 200)]) ⟨hx, hb, hml, hown, ht⟩ (k_X15_isFault l D g z0 _ a p0) (cwV 1 ht (gV w_372 w_374 w_375 w_334 w_373) rfl rfl rfl (by decide +kernel) (le2 rfl rfl)) ⟨PP.blind, va_recv hK.1 hP (ci := 21) (q0 := 0) rfl rfl, PP.mk' hK hZ hz hAz hS hPc hDc⟩ rfl rfl hl.1 rfl (lv_room (Nat.le_of_ble_eq_true rfl)) dX15_tie_3 (le2 rfl rfl)) hS (fun q _ h => hFc q h) hFc (fun r u t H locs ht1 hvm hw hB hz1 hk1 hS => ?_)
  obtain ⟨rfl, hw⟩ := hw
  have hP := ro1 hP hk1
  refine lv_if_ne (tgt := 13) hx hb dX15_tie_6 (by decide) (fun c_1 => ?_) (fun c_1 => ?_)
  · exact absurd c_1 (by decide)
  · refine lv_iconst (v := 1) hx hb dX15_tie_9 (by decide) ?_
    refine lv_goto (tgt := 57) hx hb dX15_tie_10 (by decide) ?_
    have hPc : va_P D vwCl [((a 200), f_m a g)] _ := hP.sub (ws' := [((a 200), f_m a g)]) [0] rfl
    have hDc : va_D (fun q => z0 ≤ q) [((a 200), f_m a g)] := (hD.to hAz).pick (ws' := [((a 200), f_m a g)]) [0] (by decide) rfl
    have hFc := va_free (wc := [((a 200), f_m a g)]) hD hS hA [0] rfl
    refine va_calli (va_runV (As := [.int 1]) (rest := []) ⟨hx, hb, hml, hown, ht⟩ (k_X15_isWrong l D g z0 _ a) (cwV 1 ht (gV w_376 w_378 w_379 w_334 w_377) rfl rfl rfl (by decide +kernel) (le2 rfl rfl)) ⟨PP.blind, va_recv hK.1 hP (ci := 21) (q0 := 0) rfl rfl, PP.mk' hK hZ hz hAz hS hPc hDc⟩ rfl rfl hl.1 rfl (lv_room (Nat.le_of_ble_eq_true rfl)) dX15_tie_57 (le2 rfl rfl)) hS (fun q _ h => hFc q h) hFc (fun r u t H locs ht1 hvm hw hB hz1 hk1 hS => ?_)
    obtain ⟨rfl, hw⟩ := hw
    obtain ⟨hP1, hD1⟩ := hB
    rw [ht1] at hP1
    obtain ⟨hP, hD⟩ := va_join (wr := [((a 204), .inr (5, [.int 0, .ref (g 100), .int 0]))]) (w1 := [((a 200), .inr (21, [.int 1, .ref (a 201), .ref (a 202), .ref (a 203), .ref (a 204), .ref (a 205), .ref (a 206), .int 0, .int 0, .int 0, .int 0, .ref (a 208), .ref (a 209), .ref (a 210), .ref (a 211), .ref (a 212), .int 4, .int 12, .int (-1), .int 0, .ref (g 200), .ref (a 213), .int 0, .int 97, .ref (a 214), .ref (a 215), .ref (a 207), .null, .int 0]))]) hP hD [0] [1] rfl rfl (by decide) (by decide) hk1 hFc hP1 hD1
    have hP : va_P D vwCl [((a 204), .inr (5, [.int 0, .ref (g 100), .int 0])), ((a 200), .inr (21, [.int 1, .ref (a 201), .ref (a 202), .ref (a 203), .ref (a 204), .ref (a 205), .ref (a 206), .int 0, .int 0, .int 0, .int 0, .ref (a 208), .ref (a 209), .ref (a 210), .ref (a 211), .ref (a 212), .int 4, .int 12, .int (-1), .int 0, .ref (g 200), .ref (a 213), .int 0, .int 97, .ref (a 214), .ref (a 215), .ref (a 207), .null, .int 0]))] H := hP
    have hD : va_D (va_A [((a 200), f_m a g), ((a 204), .inr (5, [.int 0, .ref (g 100), .int 0]))] s.heap.size) [((a 204), .inr (5, [.int 0, .ref (g 100), .int 0])), ((a 200), .inr (21, [.int 1, .ref (a 201), .ref (a 202), .ref (a 203), .ref (a 204), .ref (a 205), .ref (a 206), .int 0, .int 0, .int 0, .int 0, .ref (a 208), .ref (a 209), .ref (a 210), .ref (a 211), .ref (a 212), .int 4, .int 12, .int (-1), .int 0, .ref (g 200), .ref (a 213), .int 0, .int 97, .ref (a 214), .ref (a 215), .ref (a 207), .null, .int 0]))] := hD
    refine lv_if_eq (tgt := 65) hx hb dX15_tie_60 (by decide) (fun c_2 => ?_) (fun c_2 => ?_)
    · exact absurd c_2 (by decide)
    · refine lv_iconst (v := 0) hx hb dX15_tie_63 (by decide) ?_
      have hP9 := hP.sub (ws' := [((a 200), .inr (21, [.int 1, .ref (a 201), .ref (a 202), .ref (a 203), .ref (a 204), .ref (a 205), .ref (a 206), .int 0, .int 0, .int 0, .int 0, .ref (a 208), .ref (a 209), .ref (a 210), .ref (a 211), .ref (a 212), .int 4, .int 12, .int (-1), .int 0, .ref (g 200), .ref (a 213), .int 0, .int 97, .ref (a 214), .ref (a 215), .ref (a 207), .null, .int 0]))]) [1] rfl
      have hD9 := hD.sub (ws' := [((a 200), .inr (21, [.int 1, .ref (a 201), .ref (a 202), .ref (a 203), .ref (a 204), .ref (a 205), .ref (a 206), .int 0, .int 0, .int 0, .int 0, .ref (a 208), .ref (a 209), .ref (a 210), .ref (a 211), .ref (a 212), .int 4, .int 12, .int (-1), .int 0, .ref (g 200), .ref (a 213), .int 0, .int 97, .ref (a 214), .ref (a 215), .ref (a 207), .null, .int 0]))]) [1] (by decide) rfl
      refine W.widen (k := 0) (n := 0) (Nat.le_of_ble_eq_true rfl) (Nat.le_of_ble_eq_true rfl) ?_
      exact W.iret (v := 0) hx hb hr (fun t ht9 hW9 => ⟨⟨0, (), rfl, ⟨rfl, trivial⟩, ⟨(by rw [ht9]; exact hP9), hD9⟩⟩, hS.F ht9⟩) hS.2.2 dX15_tie_64 hlocks
set_option maxHeartbeats 4000000 in
set_option maxRecDepth 100000 in
theorem k_X15_turnAbout (l : Launch) (D : va_G) (g : Nat → ClassId) (z0 sz : Nat) (a : Nat → Nat) : Met l yX15_turnAbout (.code yX15_turnAbout cX15_turnAbout 12 (some .int) :: TG) (rmk 5 3 3 95) (va_Pc [.ref (a 200)] (PP D g z0 sz [((a 200), f_m a g), ((a 201), .inr (5, [.int 0, .ref (g 100), .int 0])), ((a 206), .inr (5, [.int 0, .ref (g 100), .int 0]))])) (va_Qi (fun (r : Int32) (u : Unit) => (r = 0) ∧ True) (fun (u : Unit) (t : State) => va_P D vwCl [((a 200), f_m a g)] t.heap ∧ va_D (va_A [((a 200), f_m a g), ((a 201), .inr (5, [.int 0, .ref (g 100), .int 0])), ((a 206), .inr (5, [.int 0, .ref (g 100), .int 0]))] sz) [((a 200), f_m a g)]) (va_A [((a 200), f_m a g), ((a 201), .inr (5, [.int 0, .ref (g 100), .int 0])), ((a 206), .inr (5, [.int 0, .ref (g 100), .int 0]))] sz)) 3 3 (va_A [((a 200), f_m a g), ((a 201), .inr (5, [.int 0, .ref (g 100), .int 0])), ((a 206), .inr (5, [.int 0, .ref (g 100), .int 0]))] sz) := by
  refine met0 (cc := cX15_turnAbout) (n := 12) (by decide) (Nat.le_of_ble_eq_true rfl) ?_
  intro p e s m args below meth c hx hb hr hml hown ht hlocks hnm hP0 hD0 hK hZ hsz hz ls hl
  subst hsz
  have hA : ∀ q : Nat, s.heap.size ≤ q → va_A [((a 200), f_m a g), ((a 201), .inr (5, [.int 0, .ref (g 100), .int 0])), ((a 206), .inr (5, [.int 0, .ref (g 100), .int 0]))] s.heap.size q := Anw
  have hAz : ∀ q, va_A [((a 200), f_m a g), ((a 201), .inr (5, [.int 0, .ref (g 100), .int 0])), ((a 206), .inr (5, [.int 0, .ref (g 100), .int 0]))] s.heap.size q → z0 ≤ q := Awz hz hD0
  have hS : va_S (va_A [((a 200), f_m a g), ((a 201), .inr (5, [.int 0, .ref (g 100), .int 0])), ((a 206), .inr (5, [.int 0, .ref (g 100), .int 0]))] s.heap.size) s.heap s.heap [] := va_S.rf
  have hD : va_D (va_A [((a 200), f_m a g), ((a 201), .inr (5, [.int 0, .ref (g 100), .int 0])), ((a 206), .inr (5, [.int 0, .ref (g 100), .int 0]))] s.heap.size) [((a 200), f_m a g), ((a 201), .inr (5, [.int 0, .ref (g 100), .int 0])), ((a 206), .inr (5, [.int 0, .ref (g 100), .int 0]))] := hD0.self
  have hP : va_P D vwCl [((a 200), f_m a g), ((a 201), .inr (5, [.int 0, .ref (g 100), .int 0])), ((a 206), .inr (5, [.int 0, .ref (g 100), .int 0]))] s.heap := hP0
  have hl : lv_has ls 12 [(0, .ref (a 200))] := hl
  refine lv_aload_n hx hb dX15_turnAbout_0 rfl (lv_at hl 0 rfl) ?_
  refine lv_iconst (v := 0) hx hb dX15_turnAbout_1 (by decide) ?_
  refine va_put (D := D) (ci := 21) (v := .int 0) (ty := .int) (C := RX15) (T := TX15) (N := 29) hx hb ht in_X15 tyX15 tyX15_ok nmX15 hown hK.1 hP hD hS 0 rfl rfl 0 (by decide) (ht _ w_303) (fun _ h9 => h9) rfl (by decide +kernel) rfl rfl (Nat.le_of_ble_eq_true rfl) dX15_turnAbout_2 (fun H locs hP hD hS => ?_)
  have hP : va_P D vwCl [((a 200), .inr (21, [.int 0, .ref (a 201), .ref (a 202), .ref (a 203), .ref (a 204), .ref (a 205), .ref (a 206), .int 0, .int 0, .int 0, .int 0, .ref (a 208), .ref (a 209), .ref (a 210), .ref (a 211), .ref (a 212), .int 4, .int 12, .int (-1), .int 0, .ref (g 200), .ref (a 213), .int 0, .int 97, .ref (a 214), .ref (a 215), .ref (a 207), .null, .int 0])), ((a 201), .inr (5, [.int 0, .ref (g 100), .int 0])), ((a 206), .inr (5, [.int 0, .ref (g 100), .int 0]))] H := hP
  have hD : va_D (va_A [((a 200), f_m a g), ((a 201), .inr (5, [.int 0, .ref (g 100), .int 0])), ((a 206), .inr (5, [.int 0, .ref (g 100), .int 0]))] s.heap.size) [((a 200), .inr (21, [.int 0, .ref (a 201), .ref (a 202), .ref (a 203), .ref (a 204), .ref (a 205), .ref (a 206), .int 0, .int 0, .int 0, .int 0, .ref (a 208), .ref (a 209), .ref (a 210), .ref (a 211), .ref (a 212), .int 4, .int 12, .int (-1), .int 0, .ref (g 200), .ref (a 213), .int 0, .int 97, .ref (a 214), .ref (a 215), .ref (a 207), .null, .int 0])), ((a 201), .inr (5, [.int 0, .ref (g 100), .int 0])), ((a 206), .inr (5, [.int 0, .ref (g 100), .int 0]))] := hD
  refine lv_aload_n hx hb dX15_turnAbout_5 rfl (lv_at hl 0 rfl) ?_
  have hPc : va_P D vwCl [((a 200), .inr (21, [.int 0, .ref (a 201), .ref (a 202), .ref (a 203), .ref (a 204), .ref (a 205), .ref (a 206), .int 0, .int 0, .int 0, .int 0, .ref (a 208), .ref (a 209), .ref (a 210), .ref (a 211), .ref (a 212), .int 4, .int 12, .int (-1), .int 0, .ref (g 200), .ref (a 213), .int 0, .int 97, .ref (a 214), .ref (a 215), .ref (a 207), .null, .int 0])), ((a 201), .inr (5, [.int 0, .ref (g 100), .int 0]))] _ := hP.sub (ws' := [((a 200), .inr (21, [.int 0, .ref (a 201), .ref (a 202), .ref (a 203), .ref (a 204), .ref (a 205), .ref (a 206), .int 0, .int 0, .int 0, .int 0, .ref (a 208), .ref (a 209), .ref (a 210), .ref (a 211), .ref (a 212), .int 4, .int 12, .int (-1), .int 0, .ref (g 200), .ref (a 213), .int 0, .int 97, .ref (a 214), .ref (a 215), .ref (a 207), .null, .int 0])), ((a 201), .inr (5, [.int 0, .ref (g 100), .int 0]))]) [0, 1] rfl
  have hDc : va_D (fun q => z0 ≤ q) [((a 200), .inr (21, [.int 0, .ref (a 201), .ref (a 202), .ref (a 203), .ref (a 204), .ref (a 205), .ref (a 206), .int 0, .int 0, .int 0, .int 0, .ref (a 208), .ref (a 209), .ref (a 210), .ref (a 211), .ref (a 212), .int 4, .int 12, .int (-1), .int 0, .ref (g 200), .ref (a 213), .int 0, .int 97, .ref (a 214), .ref (a 215), .ref (a 207), .null, .int 0])), ((a 201), .inr (5, [.int 0, .ref (g 100), .int 0]))] := (hD.to hAz).pick (ws' := [((a 200), .inr (21, [.int 0, .ref (a 201), .ref (a 202), .ref (a 203), .ref (a 204), .ref (a 205), .ref (a 206), .int 0, .int 0, .int 0, .int 0, .ref (a 208), .ref (a 209), .ref (a 210), .ref (a 211), .ref (a 212), .int 4, .int 12, .int (-1), .int 0, .ref (g 200), .ref (a 213), .int 0, .int 97, .ref (a 214), .ref (a 215), .ref (a 207), .null, .int 0])), ((a 201), .inr (5, [.int 0, .ref (g 100), .int 0]))]) [0, 1] (by decide) rfl
  have hFc := va_free (wc := [((a 200), .inr (21, [.int 0, .ref (a 201), .ref (a 202), .ref (a 203), .ref (a 204), .ref (a 205), .ref (a 206), .int 0, .int 0, .int 0, .int 0, .ref (a 208), .ref (a 209), .ref (a 210), .ref (a 211), .ref (a 212), .int 4, .int 12, .int (-1), .int 0, .ref (g 200), .ref (a 213), .int 0, .int 97, .ref (a 214), .ref (a 215), .ref (a 207), .null, .int 0])), ((a 201), .inr (5, [.int 0, .ref (g 100), .int 0]))]) hD hS hA [0, 1] rfl
  refine va_callr (va_runV (As := []) (rest := []) ⟨hx, hb, hml, hown, ht⟩ (k_X15_allClasses l D g z0 _ a) (cwV 0 ht (gV w_364 w_366 w_367 w_334 w_365) rfl rfl rfl (by decide +kernel) (le2 rfl rfl)) ⟨PP.blind, va_recv hK.1 hP (ci := 21) (q0 := 0) rfl rfl, PP.mk' hK hZ hz hAz hS hPc hDc⟩ rfl rfl hl.1 rfl (lv_room (Nat.le_of_ble_eq_true rfl)) dX15_turnAbout_6 (le2 rfl rfl)) hS (fun q _ h => hFc q h) hFc (fun u ra t H locs ht1 hvm hw hB hz1 hk1 hS => ?_)
  obtain ⟨q_1, hr9, hP1, hD1⟩ := hB
  rw [ht1] at hP1
  obtain ⟨hP, hD⟩ := va_join (wr := [((a 206), .inr (5, [.int 0, .ref (g 100), .int 0]))]) (w1 := [(q_1, .inr (5, [.int 0, .ref (g 100), .int 0])), ((a 200), f_m a g), ((a 201), .inr (5, [.int 0, .ref (g 100), .int 0]))]) hP hD [0, 1] [2] rfl rfl (by decide) (by decide) hk1 hFc hP1 hD1
  subst hr9
  have hP : va_P D vwCl [((a 206), .inr (5, [.int 0, .ref (g 100), .int 0])), (q_1, .inr (5, [.int 0, .ref (g 100), .int 0])), ((a 200), f_m a g), ((a 201), .inr (5, [.int 0, .ref (g 100), .int 0]))] H := hP
  have hD : va_D (va_A [((a 200), f_m a g), ((a 201), .inr (5, [.int 0, .ref (g 100), .int 0])), ((a 206), .inr (5, [.int 0, .ref (g 100), .int 0]))] s.heap.size) [((a 206), .inr (5, [.int 0, .ref (g 100), .int 0])), (q_1, .inr (5, [.int 0, .ref (g 100), .int 0])), ((a 200), f_m a g), ((a 201), .inr (5, [.int 0, .ref (g 100), .int 0]))] := hD
  refine lv_astore_n (lv' := [(1, .ref q_1), (0, .ref (a 200))]) hx hb dX15_turnAbout_9 rfl hl (by decide) rfl (fun ls hl => ?_)
  refine lv_lconst (v := 0) hx hb dX15_turnAbout_10 (by decide) ?_
  refine lv_lstore_n (lv' := [(2, .long 0), (1, .ref q_1), (0, .ref (a 200))]) hx hb dX15_turnAbout_11 rfl hl (by decide) rfl (fun ls hl => ?_)
  refine lv_aload_n hx hb dX15_turnAbout_12 rfl (lv_at hl 1 rfl) ?_
  have hPc : va_P D vwCl [(q_1, .inr (5, [.int 0, .ref (g 100), .int 0]))] _ := hP.sub (ws' := [(q_1, .inr (5, [.int 0, .ref (g 100), .int 0]))]) [1] rfl
  have hDc : va_D (fun q => z0 ≤ q) [(q_1, .inr (5, [.int 0, .ref (g 100), .int 0]))] := (hD.to hAz).pick (ws' := [(q_1, .inr (5, [.int 0, .ref (g 100), .int 0]))]) [1] (by decide) rfl
  have hFc := AnA (ws := [((a 200), f_m a g), ((a 201), .inr (5, [.int 0, .ref (g 100), .int 0])), ((a 206), .inr (5, [.int 0, .ref (g 100), .int 0]))]) hS.1
  refine va_callFi (va_runF (As := []) (rest := []) (hK.1.1 5 _ rfl).2 ⟨hx, hb, hml, hown, ht⟩ (k_Jx4a65c_size_8abf5 l D g z0 _ a q_1) (va_cwF 0 ht (gF w_356 w_358 w_359 w_323 w_357) rfl rfl rfl (hK.2.2.2.1 _ (List.mem_of_getElem? (i := 0) rfl)) (by decide +kernel) (le2 rfl rfl)) ⟨PP.blind, va_recv hK.1 hP (ci := 5) (q0 := 1) rfl rfl, PP.mk' hK hZ hz hAz hS hPc hDc⟩ rfl rfl hl.1 rfl (lv_room (Nat.le_of_ble_eq_true rfl)) dX15_turnAbout_13 (le2 rfl rfl)) hS (fun q _ h => hFc q h) hFc (fun r u t H locs ht1 hvm hw hB hz1 hk1 hS => ?_)
  obtain ⟨rfl, hw⟩ := hw
  have hP := ro1 hP hk1
  refine r_newa (atype := .long) (cy := g 1) (a0 := (0, .inr (.inl (fun _ => 0)))) hx hb (ht _ w_493) hK.2.1.2.1 hP hD hS hA (fun _ => rfl) (by decide) (by decide) (by decide) (Nat.le_of_ble_eq_true rfl) (Nat.le_of_ble_eq_true rfl) dX15_turnAbout_18 (fun q_2 H hP hD hS => ?_)
  have hP : va_P D vwCl [((a 206), .inr (5, [.int 0, .ref (g 100), .int 0])), (q_1, .inr (5, [.int 0, .ref (g 100), .int 0])), ((a 200), f_m a g), ((a 201), .inr (5, [.int 0, .ref (g 100), .int 0])), (q_2, .inl (g 1, 0, .inr (.inl (fun _ => 0))))] H := hP
  have hD : va_D (va_A [((a 200), f_m a g), ((a 201), .inr (5, [.int 0, .ref (g 100), .int 0])), ((a 206), .inr (5, [.int 0, .ref (g 100), .int 0]))] s.heap.size) [((a 206), .inr (5, [.int 0, .ref (g 100), .int 0])), (q_1, .inr (5, [.int 0, .ref (g 100), .int 0])), ((a 200), f_m a g), ((a 201), .inr (5, [.int 0, .ref (g 100), .int 0])), (q_2, .inl (g 1, 0, .inr (.inl (fun _ => 0))))] := hD
  refine lv_astore (lv' := [(4, .ref q_2), (2, .long 0), (1, .ref q_1), (0, .ref (a 200))]) hx hb dX15_turnAbout_20 hl (by decide) rfl (fun ls hl => ?_)
  refine lv_iconst (v := 0) hx hb dX15_turnAbout_22 (by decide) ?_
  refine lv_istore (lv' := [(5, .int 0), (4, .ref q_2), (2, .long 0), (1, .ref q_1), (0, .ref (a 200))]) hx hb dX15_turnAbout_23 hl (by decide) rfl (fun ls hl => ?_)
  refine lv_iload hx hb dX15_turnAbout_25 (lv_at hl 0 rfl) ?_
  refine lv_aload hx hb dX15_turnAbout_27 (lv_at hl 1 rfl) ?_
  refine va_alen (v := 0) hx hb hK.1 hP 4 1 rfl rfl (by decide) dX15_turnAbout_29 ?_
  refine lv_icmp_ge (tgt := 64) hx hb dX15_turnAbout_30 (by decide) (fun c_3 => ?_) (fun c_3 => ?_)
  · refine lv_aload_n hx hb dX15_turnAbout_64 rfl (lv_at hl 4 rfl) ?_
    refine va_get (D := D) (ci := 21) (v := .ref (a 206)) (C := RX15) (T := TX15) (N := 29) hx hb ht in_X15 hown hK.1 hP 2 rfl rfl 6 (by decide) (ht _ w_304) (fun _ h9 => h9) rfl dX15_turnAbout_65 ?_
    have hPc : va_P D vwCl [((a 206), .inr (5, [.int 0, .ref (g 100), .int 0]))] _ := hP.sub (ws' := [((a 206), .inr (5, [.int 0, .ref (g 100), .int 0]))]) [0] rfl
    have hDc : va_D (fun q => z0 ≤ q) [((a 206), .inr (5, [.int 0, .ref (g 100), .int 0]))] := (hD.to hAz).pick (ws' := [((a 206), .inr (5, [.int 0, .ref (g 100), .int 0]))]) [0] (by decide) rfl
    have hFc := AnA (ws := [((a 200), f_m a g), ((a 201), .inr (5, [.int 0, .ref (g 100), .int 0])), ((a 206), .inr (5, [.int 0, .ref (g 100), .int 0]))]) hS.1
    refine va_callFi (va_runF (As := []) (rest := []) (hK.1.1 5 _ rfl).2 ⟨hx, hb, hml, hown, ht⟩ (k_Jx4a65c_size_8abf5 l D g z0 _ a (a 206)) (va_cwF 0 ht (gF w_356 w_358 w_359 w_323 w_357) rfl rfl rfl (hK.2.2.2.1 _ (List.mem_of_getElem? (i := 0) rfl)) (by decide +kernel) (le2 rfl rfl)) ⟨PP.blind, va_recv hK.1 hP (ci := 5) (q0 := 0) rfl rfl, PP.mk' hK hZ hz hAz hS hPc hDc⟩ rfl rfl hl.1 rfl (lv_room (Nat.le_of_ble_eq_true rfl)) dX15_turnAbout_68 (le2 rfl rfl)) hS (fun q _ h => hFc q h) hFc (fun r u t H locs ht1 hvm hw hB hz1 hk1 hS => ?_)
    obtain ⟨rfl, hw⟩ := hw
    have hP := ro1 hP hk1
    refine lv_iconst (v := 1) hx hb dX15_turnAbout_73 (by decide) ?_
    refine lv_isub hx hb dX15_turnAbout_74 ?_
    refine r_topi (v := (-1)) (by decide) ?_
    refine lv_istore (lv' := [(5, .int (-1)), (4, .ref q_2), (2, .long 0), (1, .ref q_1), (0, .ref (a 200))]) hx hb dX15_turnAbout_75 hl (by decide) rfl (fun ls hl => ?_)
    refine lv_iload hx hb dX15_turnAbout_77 (lv_at hl 0 rfl) ?_
    refine lv_if_lt (tgt := 170) hx hb dX15_turnAbout_79 (by decide) (fun c_4 => ?_) (fun c_4 => ?_)
    · refine lv_aload_n hx hb dX15_turnAbout_170 rfl (lv_at hl 4 rfl) ?_
      refine va_get (D := D) (ci := 21) (v := .ref (a 206)) (C := RX15) (T := TX15) (N := 29) hx hb ht in_X15 hown hK.1 hP 2 rfl rfl 6 (by decide) (ht _ w_304) (fun _ h9 => h9) rfl dX15_turnAbout_171 ?_
      have hPc : va_P D vwCl [((a 206), .inr (5, [.int 0, .ref (g 100), .int 0]))] _ := hP.sub (ws' := [((a 206), .inr (5, [.int 0, .ref (g 100), .int 0]))]) [0] rfl
      have hDc : va_D (fun q => z0 ≤ q) [((a 206), .inr (5, [.int 0, .ref (g 100), .int 0]))] := (hD.to hAz).pick (ws' := [((a 206), .inr (5, [.int 0, .ref (g 100), .int 0]))]) [0] (by decide) rfl
      have hFc := AnA (ws := [((a 200), f_m a g), ((a 201), .inr (5, [.int 0, .ref (g 100), .int 0])), ((a 206), .inr (5, [.int 0, .ref (g 100), .int 0]))]) hS.1
      refine va_callFi (va_runF (As := []) (rest := []) (hK.1.1 5 _ rfl).2 ⟨hx, hb, hml, hown, ht⟩ (k_Jx4a65c_size_8abf5 l D g z0 _ a (a 206)) (va_cwF 0 ht (gF w_356 w_358 w_359 w_323 w_357) rfl rfl rfl (hK.2.2.2.1 _ (List.mem_of_getElem? (i := 0) rfl)) (by decide +kernel) (le2 rfl rfl)) ⟨PP.blind, va_recv hK.1 hP (ci := 5) (q0 := 0) rfl rfl, PP.mk' hK hZ hz hAz hS hPc hDc⟩ rfl rfl hl.1 rfl (lv_room (Nat.le_of_ble_eq_true rfl)) dX15_turnAbout_174 (le2 rfl rfl)) hS (fun q _ h => hFc q h) hFc (fun r u t H locs ht1 hvm hw hB hz1 hk1 hS => ?_)
      obtain ⟨rfl, hw⟩ := hw
      have hP := ro1 hP hk1
      refine lv_iconst (v := 1) hx hb dX15_turnAbout_179 (by decide) ?_
      refine lv_isub hx hb dX15_turnAbout_180 ?_
      refine r_topi (v := (-1)) (by decide) ?_
      refine lv_istore (lv' := [(5, .int (-1)), (4, .ref q_2), (2, .long 0), (1, .ref q_1), (0, .ref (a 200))]) hx hb dX15_turnAbout_181 hl (by decide) rfl (fun ls hl => ?_)
      refine lv_iload hx hb dX15_turnAbout_183 (lv_at hl 0 rfl) ?_
      refine lv_if_lt (tgt := 217) hx hb dX15_turnAbout_185 (by decide) (fun c_5 => ?_) (fun c_5 => ?_)
      · refine lv_aload_n hx hb dX15_turnAbout_217 rfl (lv_at hl 4 rfl) ?_
        refine va_get (D := D) (ci := 21) (v := .ref (a 206)) (C := RX15) (T := TX15) (N := 29) hx hb ht in_X15 hown hK.1 hP 2 rfl rfl 6 (by decide) (ht _ w_304) (fun _ h9 => h9) rfl dX15_turnAbout_218 ?_
        have hPc : va_P D vwCl [((a 206), .inr (5, [.int 0, .ref (g 100), .int 0]))] _ := hP.sub (ws' := [((a 206), .inr (5, [.int 0, .ref (g 100), .int 0]))]) [0] rfl
        have hDc : va_D (fun q => z0 ≤ q) [((a 206), .inr (5, [.int 0, .ref (g 100), .int 0]))] := (hD.to hAz).pick (ws' := [((a 206), .inr (5, [.int 0, .ref (g 100), .int 0]))]) [0] (by decide) rfl
        have hFc := AnA (ws := [((a 200), f_m a g), ((a 201), .inr (5, [.int 0, .ref (g 100), .int 0])), ((a 206), .inr (5, [.int 0, .ref (g 100), .int 0]))]) hS.1
        refine va_callFi (va_runF (As := []) (rest := []) (hK.1.1 5 _ rfl).2 ⟨hx, hb, hml, hown, ht⟩ (k_Jx4a65c_size_8abf5 l D g z0 _ a (a 206)) (va_cwF 0 ht (gF w_356 w_358 w_359 w_323 w_357) rfl rfl rfl (hK.2.2.2.1 _ (List.mem_of_getElem? (i := 0) rfl)) (by decide +kernel) (le2 rfl rfl)) ⟨PP.blind, va_recv hK.1 hP (ci := 5) (q0 := 0) rfl rfl, PP.mk' hK hZ hz hAz hS hPc hDc⟩ rfl rfl hl.1 rfl (lv_room (Nat.le_of_ble_eq_true rfl)) dX15_turnAbout_221 (le2 rfl rfl)) hS (fun q _ h => hFc q h) hFc (fun r u t H locs ht1 hvm hw hB hz1 hk1 hS => ?_)
        obtain ⟨rfl, hw⟩ := hw
        have hP := ro1 hP hk1
        have hP9 := hP.sub (ws' := [((a 200), f_m a g)]) [2] rfl
        have hD9 := hD.sub (ws' := [((a 200), f_m a g)]) [2] (by decide) rfl
        refine W.widen (k := 3) (n := 3) (Nat.le_of_ble_eq_true rfl) (Nat.le_of_ble_eq_true rfl) ?_
        exact W.iret (v := 0) hx hb hr (fun t ht9 hW9 => ⟨⟨0, (), rfl, ⟨rfl, trivial⟩, ⟨(by rw [ht9]; exact hP9), hD9⟩⟩, hS.F ht9⟩) hS.2.2 dX15_turnAbout_226 hlocks
      · exact absurd c_5 (by decide)
    · exact absurd c_4 (by decide)
  · exact absurd c_3 (by decide)
