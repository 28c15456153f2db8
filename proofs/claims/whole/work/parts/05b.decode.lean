theorem dX11_alike_0 : decode cX11_alike 0 = .ok (.aload_n 0, 1) := by decide +kernel
theorem dX11_alike_1 : decode cX11_alike 1 = .ok (.iload_n 1, 1) := by decide +kernel
theorem dX11_alike_2 : decode cX11_alike 2 = .ok (.invokevirtual 107, 3) := by decide +kernel
theorem dX11_alike_5 : decode cX11_alike 5 = .ok (.aload_n 0, 1) := by decide +kernel
theorem dX11_alike_6 : decode cX11_alike 6 = .ok (.getfield 21, 3) := by decide +kernel
theorem dX11_alike_9 : decode cX11_alike 9 = .ok (.getfield 222, 3) := by decide +kernel
theorem dX11_alike_12 : decode cX11_alike 12 = .ok (.iload_n 1, 1) := by decide +kernel
theorem dX11_alike_13 : decode cX11_alike 13 = .ok (.iaload, 1) := by decide +kernel
theorem dX11_alike_14 : decode cX11_alike 14 = .ok (.ireturn, 1) := by decide +kernel
theorem dX11_badWires_0 : decode cX11_badWires 0 = .ok (.aload_n 0, 1) := by decide +kernel
theorem dX11_badWires_1 : decode cX11_badWires 1 = .ok (.iload_n 1, 1) := by decide +kernel
theorem dX11_badWires_2 : decode cX11_badWires 2 = .ok (.invokevirtual 526, 3) := by decide +kernel
theorem dX11_badWires_5 : decode cX11_badWires 5 = .ok (.iconst 0, 1) := by decide +kernel
theorem dX11_badWires_6 : decode cX11_badWires 6 = .ok (.istore_n 2, 1) := by decide +kernel
theorem dX11_badWires_7 : decode cX11_badWires 7 = .ok (.iconst 0, 1) := by decide +kernel
theorem dX11_badWires_8 : decode cX11_badWires 8 = .ok (.istore_n 3, 1) := by decide +kernel
theorem dX11_badWires_9 : decode cX11_badWires 9 = .ok (.iload_n 3, 1) := by decide +kernel
theorem dX11_badWires_10 : decode cX11_badWires 10 = .ok (.aload_n 0, 1) := by decide +kernel
theorem dX11_badWires_11 : decode cX11_badWires 11 = .ok (.getfield 85, 3) := by decide +kernel
theorem dX11_badWires_14 : decode cX11_badWires 14 = .ok (.getfield 128, 3) := by decide +kernel
theorem dX11_badWires_17 : decode cX11_badWires 17 = .ok (.if_icmp .ge 36, 3) := by decide +kernel
theorem dX11_badWires_20 : decode cX11_badWires 20 = .ok (.aload_n 0, 1) := by decide +kernel
theorem dX11_badWires_21 : decode cX11_badWires 21 = .ok (.getfield 85, 3) := by decide +kernel
theorem dX11_badWires_24 : decode cX11_badWires 24 = .ok (.iload_n 3, 1) := by decide +kernel
theorem dX11_badWires_25 : decode cX11_badWires 25 = .ok (.iload_n 1, 1) := by decide +kernel
theorem dX11_badWires_26 : decode cX11_badWires 26 = .ok (.invokevirtual 529, 3) := by decide +kernel
theorem dX11_badWires_29 : decode cX11_badWires 29 = .ok (.aload_n 0, 1) := by decide +kernel
theorem dX11_badWires_30 : decode cX11_badWires 30 = .ok (.getfield 85, 3) := by decide +kernel
theorem dX11_badWires_33 : decode cX11_badWires 33 = .ok (.iload_n 3, 1) := by decide +kernel
theorem dX11_badWires_34 : decode cX11_badWires 34 = .ok (.iload_n 1, 1) := by decide +kernel
theorem dX11_badWires_35 : decode cX11_badWires 35 = .ok (.invokevirtual 532, 3) := by decide +kernel
theorem dX11_badWires_38 : decode cX11_badWires 38 = .ok (.if_icmp .eq 9, 3) := by decide +kernel
theorem dX11_badWires_41 : decode cX11_badWires 41 = .ok (.iload_n 2, 1) := by decide +kernel
theorem dX11_badWires_42 : decode cX11_badWires 42 = .ok (.iconst 1, 1) := by decide +kernel
theorem dX11_badWires_43 : decode cX11_badWires 43 = .ok (.iload_n 3, 1) := by decide +kernel
theorem dX11_badWires_44 : decode cX11_badWires 44 = .ok (.ishl, 1) := by decide +kernel
theorem dX11_badWires_45 : decode cX11_badWires 45 = .ok (.ior, 1) := by decide +kernel
theorem dX11_badWires_46 : decode cX11_badWires 46 = .ok (.istore_n 2, 1) := by decide +kernel
theorem dX11_badWires_47 : decode cX11_badWires 47 = .ok (.iinc 3 1, 3) := by decide +kernel
theorem dX11_badWires_50 : decode cX11_badWires 50 = .ok (.goto (-41), 3) := by decide +kernel
theorem dX11_badWires_53 : decode cX11_badWires 53 = .ok (.iload_n 2, 1) := by decide +kernel
theorem dX11_badWires_54 : decode cX11_badWires 54 = .ok (.ireturn, 1) := by decide +kernel
theorem dX11_begins_0 : decode cX11_begins 0 = .ok (.iload_n 3, 1) := by decide +kernel
theorem dX11_begins_1 : decode cX11_begins 1 = .ok (.ifCond .lt 14, 3) := by decide +kernel
theorem dX11_begins_4 : decode cX11_begins 4 = .ok (.iload_n 3, 1) := by decide +kernel
theorem dX11_begins_5 : decode cX11_begins 5 = .ok (.aload_n 0, 1) := by decide +kernel
theorem dX11_begins_6 : decode cX11_begins 6 = .ok (.getfield 92, 3) := by decide +kernel
theorem dX11_begins_9 : decode cX11_begins 9 = .ok (.getfield 535, 3) := by decide +kernel
theorem dX11_begins_12 : decode cX11_begins 12 = .ok (.if_icmp .lt 11, 3) := by decide +kernel
theorem dX11_begins_15 : decode cX11_begins 15 = .ok (.new 100, 3) := by decide +kernel
theorem dX11_begins_18 : decode cX11_begins 18 = .ok (.dup, 1) := by decide +kernel
theorem dX11_begins_19 : decode cX11_begins 19 = .ok (.invokespecial 102, 3) := by decide +kernel
theorem dX11_begins_22 : decode cX11_begins 22 = .ok (.athrow, 1) := by decide +kernel
theorem dX11_begins_23 : decode cX11_begins 23 = .ok (.aload_n 0, 1) := by decide +kernel
theorem dX11_begins_24 : decode cX11_begins 24 = .ok (.iload_n 1, 1) := by decide +kernel
theorem dX11_begins_25 : decode cX11_begins 25 = .ok (.iload_n 2, 1) := by decide +kernel
theorem dX11_begins_26 : decode cX11_begins 26 = .ok (.invokevirtual 538, 3) := by decide +kernel
theorem dX11_begins_29 : decode cX11_begins 29 = .ok (.aload_n 0, 1) := by decide +kernel
theorem dX11_begins_30 : decode cX11_begins 30 = .ok (.getfield 92, 3) := by decide +kernel
theorem dX11_begins_33 : decode cX11_begins 33 = .ok (.iload_n 1, 1) := by decide +kernel
theorem dX11_begins_34 : decode cX11_begins 34 = .ok (.iload_n 2, 1) := by decide +kernel
theorem dX11_begins_35 : decode cX11_begins 35 = .ok (.invokevirtual 541, 3) := by decide +kernel
theorem dX11_begins_38 : decode cX11_begins 38 = .ok (.pop, 1) := by decide +kernel
theorem dX11_begins_39 : decode cX11_begins 39 = .ok (.aload_n 0, 1) := by decide +kernel
theorem dX11_begins_40 : decode cX11_begins 40 = .ok (.getfield 92, 3) := by decide +kernel
theorem dX11_begins_43 : decode cX11_begins 43 = .ok (.getfield 544, 3) := by decide +kernel
theorem dX11_begins_46 : decode cX11_begins 46 = .ok (.iload_n 3, 1) := by decide +kernel
theorem dX11_begins_47 : decode cX11_begins 47 = .ok (.iaload, 1) := by decide +kernel
theorem dX11_begins_48 : decode cX11_begins 48 = .ok (.ireturn, 1) := by decide +kernel
theorem dX11_breakChain_0 : decode cX11_breakChain 0 = .ok (.iload_n 1, 1) := by decide +kernel
theorem dX11_breakChain_1 : decode cX11_breakChain 1 = .ok (.iconst (-1), 1) := by decide +kernel
theorem dX11_breakChain_2 : decode cX11_breakChain 2 = .ok (.aload_n 0, 1) := by decide +kernel
theorem dX11_breakChain_3 : decode cX11_breakChain 3 = .ok (.getfield 10, 3) := by decide +kernel
theorem dX11_breakChain_6 : decode cX11_breakChain 6 = .ok (.getfield 453, 3) := by decide +kernel
theorem dX11_breakChain_9 : decode cX11_breakChain 9 = .ok (.iconst 1, 1) := by decide +kernel
theorem dX11_breakChain_10 : decode cX11_breakChain 10 = .ok (.isub, 1) := by decide +kernel
theorem dX11_breakChain_11 : decode cX11_breakChain 11 = .ok (.invokestatic 361, 3) := by decide +kernel
theorem dX11_breakChain_14 : decode cX11_breakChain 14 = .ok (.iload_n 2, 1) := by decide +kernel
theorem dX11_breakChain_15 : decode cX11_breakChain 15 = .ok (.iconst 0, 1) := by decide +kernel
theorem dX11_breakChain_16 : decode cX11_breakChain 16 = .ok (.iconst 1, 1) := by decide +kernel
theorem dX11_breakChain_17 : decode cX11_breakChain 17 = .ok (.invokestatic 361, 3) := by decide +kernel
theorem dX11_breakChain_20 : decode cX11_breakChain 20 = .ok (.aload_n 0, 1) := by decide +kernel
theorem dX11_breakChain_21 : decode cX11_breakChain 21 = .ok (.invokevirtual 177, 3) := by decide +kernel
theorem dX11_breakChain_24 : decode cX11_breakChain 24 = .ok (.aload_n 0, 1) := by decide +kernel
theorem dX11_breakChain_25 : decode cX11_breakChain 25 = .ok (.getfield 71, 3) := by decide +kernel
theorem dX11_breakChain_28 : decode cX11_breakChain 28 = .ok (.getfield 456, 3) := by decide +kernel
theorem dX11_breakChain_31 : decode cX11_breakChain 31 = .ok (.istore_n 3, 1) := by decide +kernel
theorem dX11_breakChain_32 : decode cX11_breakChain 32 = .ok (.aload_n 0, 1) := by decide +kernel
theorem dX11_breakChain_33 : decode cX11_breakChain 33 = .ok (.getfield 71, 3) := by decide +kernel
theorem dX11_breakChain_36 : decode cX11_breakChain 36 = .ok (.iload_n 1, 1) := by decide +kernel
theorem dX11_breakChain_37 : decode cX11_breakChain 37 = .ok (.putfield 456, 3) := by decide +kernel
theorem dX11_breakChain_40 : decode cX11_breakChain 40 = .ok (.aload_n 0, 1) := by decide +kernel
theorem dX11_breakChain_41 : decode cX11_breakChain 41 = .ok (.getfield 71, 3) := by decide +kernel
theorem dX11_breakChain_44 : decode cX11_breakChain 44 = .ok (.iload_n 2, 1) := by decide +kernel
theorem dX11_breakChain_45 : decode cX11_breakChain 45 = .ok (.putfield 459, 3) := by decide +kernel
theorem dX11_breakChain_48 : decode cX11_breakChain 48 = .ok (.iload_n 3, 1) := by decide +kernel
theorem dX11_breakChain_49 : decode cX11_breakChain 49 = .ok (.ireturn, 1) := by decide +kernel
theorem dX11_breakChip_0 : decode cX11_breakChip 0 = .ok (.aload_n 0, 1) := by decide +kernel
theorem dX11_breakChip_1 : decode cX11_breakChip 1 = .ok (.iload_n 1, 1) := by decide +kernel
theorem dX11_breakChip_2 : decode cX11_breakChip 2 = .ok (.invokevirtual 319, 3) := by decide +kernel
theorem dX11_breakChip_5 : decode cX11_breakChip 5 = .ok (.aload_n 0, 1) := by decide +kernel
theorem dX11_breakChip_6 : decode cX11_breakChip 6 = .ok (.getfield 71, 3) := by decide +kernel
theorem dX11_breakChip_9 : decode cX11_breakChip 9 = .ok (.getfield 429, 3) := by decide +kernel
theorem dX11_breakChip_12 : decode cX11_breakChip 12 = .ok (.iconst 2, 1) := by decide +kernel
theorem dX11_breakChip_13 : decode cX11_breakChip 13 = .ok (.if_icmp .lt 11, 3) := by decide +kernel
theorem dX11_breakChip_16 : decode cX11_breakChip 16 = .ok (.new 141, 3) := by decide +kernel
theorem dX11_breakChip_19 : decode cX11_breakChip 19 = .ok (.dup, 1) := by decide +kernel
theorem dX11_breakChip_20 : decode cX11_breakChip 20 = .ok (.invokespecial 143, 3) := by decide +kernel
theorem dX11_breakChip_23 : decode cX11_breakChip 23 = .ok (.athrow, 1) := by decide +kernel
theorem dX11_breakChip_24 : decode cX11_breakChip 24 = .ok (.aload_n 0, 1) := by decide +kernel
theorem dX11_breakChip_25 : decode cX11_breakChip 25 = .ok (.getfield 71, 3) := by decide +kernel
theorem dX11_breakChip_28 : decode cX11_breakChip 28 = .ok (.iload_n 1, 1) := by decide +kernel
theorem dX11_breakChip_29 : decode cX11_breakChip 29 = .ok (.invokevirtual 432, 3) := by decide +kernel
theorem dX11_breakChip_32 : decode cX11_breakChip 32 = .ok (.ireturn, 1) := by decide +kernel
theorem dX11_bridge_0 : decode cX11_bridge 0 = .ok (.iload_n 1, 1) := by decide +kernel
theorem dX11_bridge_1 : decode cX11_bridge 1 = .ok (.bipush 119, 2) := by decide +kernel
theorem dX11_bridge_3 : decode cX11_bridge 3 = .ok (.if_icmp .eq 23, 3) := by decide +kernel
theorem dX11_bridge_6 : decode cX11_bridge 6 = .ok (.iload_n 1, 1) := by decide +kernel
theorem dX11_bridge_7 : decode cX11_bridge 7 = .ok (.bipush 117, 2) := by decide +kernel
theorem dX11_bridge_9 : decode cX11_bridge 9 = .ok (.if_icmp .eq 17, 3) := by decide +kernel
theorem dX11_bridge_12 : decode cX11_bridge 12 = .ok (.iload_n 1, 1) := by decide +kernel
theorem dX11_bridge_13 : decode cX11_bridge 13 = .ok (.bipush 100, 2) := by decide +kernel
theorem dX11_bridge_15 : decode cX11_bridge 15 = .ok (.if_icmp .eq 11, 3) := by decide +kernel
theorem dX11_bridge_18 : decode cX11_bridge 18 = .ok (.new 114, 3) := by decide +kernel
theorem dX11_bridge_21 : decode cX11_bridge 21 = .ok (.dup, 1) := by decide +kernel
theorem dX11_bridge_22 : decode cX11_bridge 22 = .ok (.invokespecial 116, 3) := by decide +kernel
theorem dX11_bridge_25 : decode cX11_bridge 25 = .ok (.athrow, 1) := by decide +kernel
theorem dX11_bridge_26 : decode cX11_bridge 26 = .ok (.aload_n 0, 1) := by decide +kernel
theorem dX11_bridge_27 : decode cX11_bridge 27 = .ok (.iload_n 2, 1) := by decide +kernel
theorem dX11_bridge_28 : decode cX11_bridge 28 = .ok (.invokevirtual 149, 3) := by decide +kernel
theorem dX11_bridge_31 : decode cX11_bridge 31 = .ok (.aload_n 0, 1) := by decide +kernel
theorem dX11_bridge_32 : decode cX11_bridge 32 = .ok (.iload_n 3, 1) := by decide +kernel
theorem dX11_bridge_33 : decode cX11_bridge 33 = .ok (.invokevirtual 149, 3) := by decide +kernel
theorem dX11_bridge_36 : decode cX11_bridge 36 = .ok (.aload_n 0, 1) := by decide +kernel
theorem dX11_bridge_37 : decode cX11_bridge 37 = .ok (.invokevirtual 177, 3) := by decide +kernel
theorem dX11_bridge_40 : decode cX11_bridge 40 = .ok (.aload_n 0, 1) := by decide +kernel
theorem dX11_bridge_41 : decode cX11_bridge 41 = .ok (.getfield 10, 3) := by decide +kernel
theorem dX11_bridge_44 : decode cX11_bridge 44 = .ok (.iload_n 2, 1) := by decide +kernel
theorem dX11_bridge_45 : decode cX11_bridge 45 = .ok (.iload_n 3, 1) := by decide +kernel
theorem dX11_bridge_46 : decode cX11_bridge 46 = .ok (.invokevirtual 228, 3) := by decide +kernel
theorem dX11_bridge_49 : decode cX11_bridge 49 = .ok (.ifCond .ne 15, 3) := by decide +kernel
theorem dX11_bridge_52 : decode cX11_bridge 52 = .ok (.aload_n 0, 1) := by decide +kernel
theorem dX11_bridge_53 : decode cX11_bridge 53 = .ok (.getfield 10, 3) := by decide +kernel
theorem dX11_bridge_56 : decode cX11_bridge 56 = .ok (.iload_n 3, 1) := by decide +kernel
theorem dX11_bridge_57 : decode cX11_bridge 57 = .ok (.iload_n 2, 1) := by decide +kernel
theorem dX11_bridge_58 : decode cX11_bridge 58 = .ok (.invokevirtual 228, 3) := by decide +kernel
theorem dX11_bridge_61 : decode cX11_bridge 61 = .ok (.ifCond .eq 11, 3) := by decide +kernel
theorem dX11_bridge_64 : decode cX11_bridge 64 = .ok (.new 125, 3) := by decide +kernel
theorem dX11_bridge_67 : decode cX11_bridge 67 = .ok (.dup, 1) := by decide +kernel
theorem dX11_bridge_68 : decode cX11_bridge 68 = .ok (.invokespecial 127, 3) := by decide +kernel
theorem dX11_bridge_71 : decode cX11_bridge 71 = .ok (.athrow, 1) := by decide +kernel
theorem dX11_bridge_72 : decode cX11_bridge 72 = .ok (.aload_n 0, 1) := by decide +kernel
theorem dX11_bridge_73 : decode cX11_bridge 73 = .ok (.getfield 21, 3) := by decide +kernel
theorem dX11_bridge_76 : decode cX11_bridge 76 = .ok (.getfield 232, 3) := by decide +kernel
theorem dX11_bridge_79 : decode cX11_bridge 79 = .ok (.bipush 8, 2) := by decide +kernel
theorem dX11_bridge_81 : decode cX11_bridge 81 = .ok (.if_icmp .lt 11, 3) := by decide +kernel
theorem dX11_bridge_84 : decode cX11_bridge 84 = .ok (.new 141, 3) := by decide +kernel
theorem dX11_bridge_87 : decode cX11_bridge 87 = .ok (.dup, 1) := by decide +kernel
theorem dX11_bridge_88 : decode cX11_bridge 88 = .ok (.invokespecial 143, 3) := by decide +kernel
theorem dX11_bridge_91 : decode cX11_bridge 91 = .ok (.athrow, 1) := by decide +kernel
theorem dX11_bridge_92 : decode cX11_bridge 92 = .ok (.aload_n 0, 1) := by decide +kernel
theorem dX11_bridge_93 : decode cX11_bridge 93 = .ok (.getfield 21, 3) := by decide +kernel
theorem dX11_bridge_96 : decode cX11_bridge 96 = .ok (.iload_n 1, 1) := by decide +kernel
theorem dX11_bridge_97 : decode cX11_bridge 97 = .ok (.iload_n 2, 1) := by decide +kernel
theorem dX11_bridge_98 : decode cX11_bridge 98 = .ok (.iload_n 3, 1) := by decide +kernel
theorem dX11_bridge_99 : decode cX11_bridge 99 = .ok (.invokevirtual 235, 3) := by decide +kernel
theorem dX11_bridge_102 : decode cX11_bridge 102 = .ok (.ireturn, 1) := by decide +kernel
theorem dX11_classes_0 : decode cX11_classes 0 = .ok (.aload_n 0, 1) := by decide +kernel
theorem dX11_classes_1 : decode cX11_classes 1 = .ok (.getfield 21, 3) := by decide +kernel
theorem dX11_classes_4 : decode cX11_classes 4 = .ok (.invokevirtual 225, 3) := by decide +kernel
theorem dX11_classes_7 : decode cX11_classes 7 = .ok (.ireturn, 1) := by decide +kernel
theorem dX11_close_0 : decode cX11_close 0 = .ok (.aload_n 0, 1) := by decide +kernel
theorem dX11_close_1 : decode cX11_close 1 = .ok (.invokevirtual 135, 3) := by decide +kernel
theorem dX11_close_4 : decode cX11_close 4 = .ok (.aload_n 0, 1) := by decide +kernel
theorem dX11_close_5 : decode cX11_close 5 = .ok (.getfield 10, 3) := by decide +kernel
theorem dX11_close_8 : decode cX11_close 8 = .ok (.invokevirtual 167, 3) := by decide +kernel
theorem dX11_close_11 : decode cX11_close 11 = .ok (.ifCond .ne 11, 3) := by decide +kernel
theorem dX11_close_14 : decode cX11_close 14 = .ok (.new 125, 3) := by decide +kernel
theorem dX11_close_17 : decode cX11_close 17 = .ok (.dup, 1) := by decide +kernel
theorem dX11_close_18 : decode cX11_close 18 = .ok (.invokespecial 127, 3) := by decide +kernel
theorem dX11_close_21 : decode cX11_close 21 = .ok (.athrow, 1) := by decide +kernel
theorem dX11_close_22 : decode cX11_close 22 = .ok (.aload_n 0, 1) := by decide +kernel
theorem dX11_close_23 : decode cX11_close 23 = .ok (.getfield 10, 3) := by decide +kernel
theorem dX11_close_26 : decode cX11_close 26 = .ok (.invokevirtual 171, 3) := by decide +kernel
theorem dX11_close_29 : decode cX11_close 29 = .ok (.aload_n 0, 1) := by decide +kernel
theorem dX11_close_30 : decode cX11_close 30 = .ok (.getfield 21, 3) := by decide +kernel
theorem dX11_close_33 : decode cX11_close 33 = .ok (.invokevirtual 174, 3) := by decide +kernel
theorem dX11_close_36 : decode cX11_close 36 = .ok (.aload_n 0, 1) := by decide +kernel
theorem dX11_close_37 : decode cX11_close 37 = .ok (.getfield 21, 3) := by decide +kernel
theorem dX11_close_40 : decode cX11_close 40 = .ok (.getfield 111, 3) := by decide +kernel
theorem dX11_close_43 : decode cX11_close 43 = .ok (.ireturn, 1) := by decide +kernel
theorem dX11_cycles_0 : decode cX11_cycles 0 = .ok (.aload_n 0, 1) := by decide +kernel
theorem dX11_cycles_1 : decode cX11_cycles 1 = .ok (.getfield 10, 3) := by decide +kernel
theorem dX11_cycles_4 : decode cX11_cycles 4 = .ok (.getfield 453, 3) := by decide +kernel
theorem dX11_cycles_7 : decode cX11_cycles 7 = .ok (.iconst 1, 1) := by decide +kernel
theorem dX11_cycles_8 : decode cX11_cycles 8 = .ok (.iadd, 1) := by decide +kernel
theorem dX11_cycles_9 : decode cX11_cycles 9 = .ok (.aload_n 0, 1) := by decide +kernel
theorem dX11_cycles_10 : decode cX11_cycles 10 = .ok (.getfield 28, 3) := by decide +kernel
theorem dX11_cycles_13 : decode cX11_cycles 13 = .ok (.getfield 103, 3) := by decide +kernel
theorem dX11_cycles_16 : decode cX11_cycles 16 = .ok (.imul, 1) := by decide +kernel
theorem dX11_cycles_17 : decode cX11_cycles 17 = .ok (.aload_n 0, 1) := by decide +kernel
theorem dX11_cycles_18 : decode cX11_cycles 18 = .ok (.getfield 10, 3) := by decide +kernel
theorem dX11_cycles_21 : decode cX11_cycles 21 = .ok (.getfield 453, 3) := by decide +kernel
theorem dX11_cycles_24 : decode cX11_cycles 24 = .ok (.iadd, 1) := by decide +kernel
theorem dX11_cycles_25 : decode cX11_cycles 25 = .ok (.ireturn, 1) := by decide +kernel
theorem dX11_data_0 : decode cX11_data 0 = .ok (.aload_n 0, 1) := by decide +kernel
theorem dX11_data_1 : decode cX11_data 1 = .ok (.iload_n 1, 1) := by decide +kernel
theorem dX11_data_2 : decode cX11_data 2 = .ok (.invokevirtual 149, 3) := by decide +kernel
theorem dX11_data_5 : decode cX11_data 5 = .ok (.aload_n 0, 1) := by decide +kernel
theorem dX11_data_6 : decode cX11_data 6 = .ok (.iload_n 2, 1) := by decide +kernel
theorem dX11_data_7 : decode cX11_data 7 = .ok (.invokevirtual 149, 3) := by decide +kernel
theorem dX11_data_10 : decode cX11_data 10 = .ok (.aload_n 0, 1) := by decide +kernel
theorem dX11_data_11 : decode cX11_data 11 = .ok (.invokevirtual 135, 3) := by decide +kernel
theorem dX11_data_14 : decode cX11_data 14 = .ok (.aload_n 0, 1) := by decide +kernel
theorem dX11_data_15 : decode cX11_data 15 = .ok (.getfield 10, 3) := by decide +kernel
theorem dX11_data_18 : decode cX11_data 18 = .ok (.getfield 156, 3) := by decide +kernel
theorem dX11_data_21 : decode cX11_data 21 = .ok (.iload_n 1, 1) := by decide +kernel
theorem dX11_data_22 : decode cX11_data 22 = .ok (.caload, 1) := by decide +kernel
theorem dX11_data_23 : decode cX11_data 23 = .ok (.bipush 102, 2) := by decide +kernel
theorem dX11_data_25 : decode cX11_data 25 = .ok (.if_icmp .eq 11, 3) := by decide +kernel
theorem dX11_data_28 : decode cX11_data 28 = .ok (.new 125, 3) := by decide +kernel
theorem dX11_data_31 : decode cX11_data 31 = .ok (.dup, 1) := by decide +kernel
theorem dX11_data_32 : decode cX11_data 32 = .ok (.invokespecial 127, 3) := by decide +kernel
theorem dX11_data_35 : decode cX11_data 35 = .ok (.athrow, 1) := by decide +kernel
theorem dX11_data_36 : decode cX11_data 36 = .ok (.aload_n 0, 1) := by decide +kernel
theorem dX11_data_37 : decode cX11_data 37 = .ok (.getfield 10, 3) := by decide +kernel
theorem dX11_data_40 : decode cX11_data 40 = .ok (.getfield 159, 3) := by decide +kernel
theorem dX11_data_43 : decode cX11_data 43 = .ok (.iload_n 1, 1) := by decide +kernel
theorem dX11_data_44 : decode cX11_data 44 = .ok (.iaload, 1) := by decide +kernel
theorem dX11_data_45 : decode cX11_data 45 = .ok (.istore_n 3, 1) := by decide +kernel
theorem dX11_data_46 : decode cX11_data 46 = .ok (.aload_n 0, 1) := by decide +kernel
theorem dX11_data_47 : decode cX11_data 47 = .ok (.getfield 10, 3) := by decide +kernel
theorem dX11_data_50 : decode cX11_data 50 = .ok (.getfield 159, 3) := by decide +kernel
theorem dX11_data_53 : decode cX11_data 53 = .ok (.iload_n 1, 1) := by decide +kernel
theorem dX11_data_54 : decode cX11_data 54 = .ok (.iload_n 2, 1) := by decide +kernel
theorem dX11_data_55 : decode cX11_data 55 = .ok (.iastore, 1) := by decide +kernel
theorem dX11_data_56 : decode cX11_data 56 = .ok (.iload_n 3, 1) := by decide +kernel
theorem dX11_data_57 : decode cX11_data 57 = .ok (.ireturn, 1) := by decide +kernel
theorem dX11_fails_0 : decode cX11_fails 0 = .ok (.aload_n 0, 1) := by decide +kernel
theorem dX11_fails_1 : decode cX11_fails 1 = .ok (.iload_n 1, 1) := by decide +kernel
theorem dX11_fails_2 : decode cX11_fails 2 = .ok (.invokevirtual 200, 3) := by decide +kernel
theorem dX11_fails_5 : decode cX11_fails 5 = .ok (.aload_n 0, 1) := by decide +kernel
theorem dX11_fails_6 : decode cX11_fails 6 = .ok (.getfield 71, 3) := by decide +kernel
theorem dX11_fails_9 : decode cX11_fails 9 = .ok (.iload_n 1, 1) := by decide +kernel
theorem dX11_fails_10 : decode cX11_fails 10 = .ok (.invokevirtual 435, 3) := by decide +kernel
theorem dX11_fails_13 : decode cX11_fails 13 = .ok (.lreturn, 1) := by decide +kernel
theorem dX11_faults_0 : decode cX11_faults 0 = .ok (.aload_n 0, 1) := by decide +kernel
theorem dX11_faults_1 : decode cX11_faults 1 = .ok (.getfield 21, 3) := by decide +kernel
theorem dX11_faults_4 : decode cX11_faults 4 = .ok (.getfield 106, 3) := by decide +kernel
theorem dX11_faults_7 : decode cX11_faults 7 = .ok (.ireturn, 1) := by decide +kernel
theorem dX11_faulty_0 : decode cX11_faulty 0 = .ok (.aload_n 0, 1) := by decide +kernel
theorem dX11_faulty_1 : decode cX11_faulty 1 = .ok (.iload_n 1, 1) := by decide +kernel
theorem dX11_faulty_2 : decode cX11_faulty 2 = .ok (.invokevirtual 200, 3) := by decide +kernel
theorem dX11_faulty_5 : decode cX11_faulty 5 = .ok (.aload_n 0, 1) := by decide +kernel
theorem dX11_faulty_6 : decode cX11_faulty 6 = .ok (.iload_n 2, 1) := by decide +kernel
theorem dX11_faulty_7 : decode cX11_faulty 7 = .ok (.invokevirtual 149, 3) := by decide +kernel
theorem dX11_faulty_10 : decode cX11_faulty 10 = .ok (.aload_n 0, 1) := by decide +kernel
theorem dX11_faulty_11 : decode cX11_faulty 11 = .ok (.iload_n 3, 1) := by decide +kernel
theorem dX11_faulty_12 : decode cX11_faulty 12 = .ok (.invokevirtual 107, 3) := by decide +kernel
theorem dX11_faulty_15 : decode cX11_faulty 15 = .ok (.aload_n 0, 1) := by decide +kernel
theorem dX11_faulty_16 : decode cX11_faulty 16 = .ok (.getfield 46, 3) := by decide +kernel
theorem dX11_faulty_19 : decode cX11_faulty 19 = .ok (.iload_n 3, 1) := by decide +kernel
theorem dX11_faulty_20 : decode cX11_faulty 20 = .ok (.iload_n 1, 1) := by decide +kernel
theorem dX11_faulty_21 : decode cX11_faulty 21 = .ok (.invokevirtual 209, 3) := by decide +kernel
theorem dX11_faulty_24 : decode cX11_faulty 24 = .ok (.aload_n 0, 1) := by decide +kernel
theorem dX11_faulty_25 : decode cX11_faulty 25 = .ok (.getfield 46, 3) := by decide +kernel
theorem dX11_faulty_28 : decode cX11_faulty 28 = .ok (.getfield 213, 3) := by decide +kernel
theorem dX11_faulty_31 : decode cX11_faulty 31 = .ok (.iload_n 2, 1) := by decide +kernel
theorem dX11_faulty_32 : decode cX11_faulty 32 = .ok (.iaload, 1) := by decide +kernel
theorem dX11_faulty_33 : decode cX11_faulty 33 = .ok (.ireturn, 1) := by decide +kernel
theorem dX11_fill_0 : decode cX11_fill 0 = .ok (.aload_n 0, 1) := by decide +kernel
theorem dX11_fill_1 : decode cX11_fill 1 = .ok (.iload_n 1, 1) := by decide +kernel
theorem dX11_fill_2 : decode cX11_fill 2 = .ok (.invokevirtual 200, 3) := by decide +kernel
theorem dX11_fill_5 : decode cX11_fill 5 = .ok (.iload_n 2, 1) := by decide +kernel
theorem dX11_fill_6 : decode cX11_fill 6 = .ok (.bipush 122, 2) := by decide +kernel
theorem dX11_fill_8 : decode cX11_fill 8 = .ok (.if_icmp .eq 23, 3) := by decide +kernel
theorem dX11_fill_11 : decode cX11_fill 11 = .ok (.iload_n 2, 1) := by decide +kernel
theorem dX11_fill_12 : decode cX11_fill 12 = .ok (.bipush 111, 2) := by decide +kernel
theorem dX11_fill_14 : decode cX11_fill 14 = .ok (.if_icmp .eq 17, 3) := by decide +kernel
theorem dX11_fill_17 : decode cX11_fill 17 = .ok (.iload_n 2, 1) := by decide +kernel
theorem dX11_fill_18 : decode cX11_fill 18 = .ok (.bipush 97, 2) := by decide +kernel
theorem dX11_fill_20 : decode cX11_fill 20 = .ok (.if_icmp .eq 11, 3) := by decide +kernel
theorem dX11_fill_23 : decode cX11_fill 23 = .ok (.new 114, 3) := by decide +kernel
theorem dX11_fill_26 : decode cX11_fill 26 = .ok (.dup, 1) := by decide +kernel
theorem dX11_fill_27 : decode cX11_fill 27 = .ok (.invokespecial 116, 3) := by decide +kernel
theorem dX11_fill_30 : decode cX11_fill 30 = .ok (.athrow, 1) := by decide +kernel
theorem dX11_fill_31 : decode cX11_fill 31 = .ok (.aload_n 0, 1) := by decide +kernel
theorem dX11_fill_32 : decode cX11_fill 32 = .ok (.getfield 28, 3) := by decide +kernel
theorem dX11_fill_35 : decode cX11_fill 35 = .ok (.iload_n 1, 1) := by decide +kernel
theorem dX11_fill_36 : decode cX11_fill 36 = .ok (.iload_n 2, 1) := by decide +kernel
theorem dX11_fill_37 : decode cX11_fill 37 = .ok (.aload_n 0, 1) := by decide +kernel
theorem dX11_fill_38 : decode cX11_fill 38 = .ok (.getfield 10, 3) := by decide +kernel
theorem dX11_fill_41 : decode cX11_fill 41 = .ok (.getfield 138, 3) := by decide +kernel
theorem dX11_fill_44 : decode cX11_fill 44 = .ok (.invokevirtual 351, 3) := by decide +kernel
theorem dX11_fill_47 : decode cX11_fill 47 = .ok (.ireturn, 1) := by decide +kernel
theorem dX11_finds_0 : decode cX11_finds 0 = .ok (.aload_n 0, 1) := by decide +kernel
theorem dX11_finds_1 : decode cX11_finds 1 = .ok (.iload_n 1, 1) := by decide +kernel
theorem dX11_finds_2 : decode cX11_finds 2 = .ok (.invokevirtual 107, 3) := by decide +kernel
theorem dX11_finds_5 : decode cX11_finds 5 = .ok (.aload_n 0, 1) := by decide +kernel
theorem dX11_finds_6 : decode cX11_finds 6 = .ok (.iload_n 2, 1) := by decide +kernel
theorem dX11_finds_7 : decode cX11_finds 7 = .ok (.invokevirtual 200, 3) := by decide +kernel
theorem dX11_finds_10 : decode cX11_finds 10 = .ok (.aload_n 0, 1) := by decide +kernel
theorem dX11_finds_11 : decode cX11_finds 11 = .ok (.iload_n 3, 1) := by decide +kernel
theorem dX11_finds_12 : decode cX11_finds 12 = .ok (.invokevirtual 244, 3) := by decide +kernel
theorem dX11_finds_15 : decode cX11_finds 15 = .ok (.aload_n 0, 1) := by decide +kernel
theorem dX11_finds_16 : decode cX11_finds 16 = .ok (.iload_n 3, 1) := by decide +kernel
theorem dX11_finds_17 : decode cX11_finds 17 = .ok (.iload_n 1, 1) := by decide +kernel
theorem dX11_finds_18 : decode cX11_finds 18 = .ok (.iload_n 2, 1) := by decide +kernel
theorem dX11_finds_19 : decode cX11_finds 19 = .ok (.invokevirtual 248, 3) := by decide +kernel
theorem dX11_finds_22 : decode cX11_finds 22 = .ok (.ireturn, 1) := by decide +kernel
theorem dX11_foundBy_0 : decode cX11_foundBy 0 = .ok (.aload_n 0, 1) := by decide +kernel
theorem dX11_foundBy_1 : decode cX11_foundBy 1 = .ok (.iload_n 1, 1) := by decide +kernel
theorem dX11_foundBy_2 : decode cX11_foundBy 2 = .ok (.invokevirtual 107, 3) := by decide +kernel
theorem dX11_foundBy_5 : decode cX11_foundBy 5 = .ok (.aload_n 0, 1) := by decide +kernel
theorem dX11_foundBy_6 : decode cX11_foundBy 6 = .ok (.getfield 37, 3) := by decide +kernel
theorem dX11_foundBy_9 : decode cX11_foundBy 9 = .ok (.iload_n 1, 1) := by decide +kernel
theorem dX11_foundBy_10 : decode cX11_foundBy 10 = .ok (.aload_n 0, 1) := by decide +kernel
theorem dX11_foundBy_11 : decode cX11_foundBy 11 = .ok (.getfield 28, 3) := by decide +kernel
theorem dX11_foundBy_14 : decode cX11_foundBy 14 = .ok (.invokevirtual 252, 3) := by decide +kernel
theorem dX11_foundBy_17 : decode cX11_foundBy 17 = .ok (.lreturn, 1) := by decide +kernel
theorem dX11_got_0 : decode cX11_got 0 = .ok (.aload_n 0, 1) := by decide +kernel
theorem dX11_got_1 : decode cX11_got 1 = .ok (.iload_n 1, 1) := by decide +kernel
theorem dX11_got_2 : decode cX11_got 2 = .ok (.invokevirtual 515, 3) := by decide +kernel
theorem dX11_got_5 : decode cX11_got 5 = .ok (.aload_n 0, 1) := by decide +kernel
theorem dX11_got_6 : decode cX11_got 6 = .ok (.iload_n 2, 1) := by decide +kernel
theorem dX11_got_7 : decode cX11_got 7 = .ok (.invokevirtual 526, 3) := by decide +kernel
theorem dX11_got_10 : decode cX11_got 10 = .ok (.aload_n 0, 1) := by decide +kernel
theorem dX11_got_11 : decode cX11_got 11 = .ok (.getfield 85, 3) := by decide +kernel
theorem dX11_got_14 : decode cX11_got 14 = .ok (.iload_n 1, 1) := by decide +kernel
theorem dX11_got_15 : decode cX11_got 15 = .ok (.iload_n 2, 1) := by decide +kernel
theorem dX11_got_16 : decode cX11_got 16 = .ok (.invokevirtual 529, 3) := by decide +kernel
theorem dX11_got_19 : decode cX11_got 19 = .ok (.ireturn, 1) := by decide +kernel
theorem dX11_isImpossible_0 : decode cX11_isImpossible 0 = .ok (.aload_n 0, 1) := by decide +kernel
theorem dX11_isImpossible_1 : decode cX11_isImpossible 1 = .ok (.iload_n 1, 1) := by decide +kernel
theorem dX11_isImpossible_2 : decode cX11_isImpossible 2 = .ok (.invokevirtual 303, 3) := by decide +kernel
theorem dX11_isImpossible_5 : decode cX11_isImpossible 5 = .ok (.aload_n 0, 1) := by decide +kernel
theorem dX11_isImpossible_6 : decode cX11_isImpossible 6 = .ok (.getfield 37, 3) := by decide +kernel
theorem dX11_isImpossible_9 : decode cX11_isImpossible 9 = .ok (.iload_n 1, 1) := by decide +kernel
theorem dX11_isImpossible_10 : decode cX11_isImpossible 10 = .ok (.invokevirtual 306, 3) := by decide +kernel
theorem dX11_isImpossible_13 : decode cX11_isImpossible 13 = .ok (.ifCond .ge 7, 3) := by decide +kernel
theorem dX11_isImpossible_16 : decode cX11_isImpossible 16 = .ok (.iconst 1, 1) := by decide +kernel
theorem dX11_isImpossible_17 : decode cX11_isImpossible 17 = .ok (.goto 4, 3) := by decide +kernel
theorem dX11_isImpossible_20 : decode cX11_isImpossible 20 = .ok (.iconst 0, 1) := by decide +kernel
theorem dX11_isImpossible_21 : decode cX11_isImpossible 21 = .ok (.ireturn, 1) := by decide +kernel
theorem dX11_known_0 : decode cX11_known 0 = .ok (.aload_n 0, 1) := by decide +kernel
theorem dX11_known_1 : decode cX11_known 1 = .ok (.iload_n 1, 1) := by decide +kernel
theorem dX11_known_2 : decode cX11_known 2 = .ok (.invokevirtual 200, 3) := by decide +kernel
theorem dX11_known_5 : decode cX11_known 5 = .ok (.iload_n 2, 1) := by decide +kernel
theorem dX11_known_6 : decode cX11_known 6 = .ok (.ifCond .eq 15, 3) := by decide +kernel
theorem dX11_known_9 : decode cX11_known 9 = .ok (.aload_n 0, 1) := by decide +kernel
theorem dX11_known_10 : decode cX11_known 10 = .ok (.getfield 28, 3) := by decide +kernel
theorem dX11_known_13 : decode cX11_known 13 = .ok (.getfield 358, 3) := by decide +kernel
theorem dX11_known_16 : decode cX11_known 16 = .ok (.iload_n 1, 1) := by decide +kernel
theorem dX11_known_17 : decode cX11_known 17 = .ok (.iaload, 1) := by decide +kernel
theorem dX11_known_18 : decode cX11_known 18 = .ok (.goto 12, 3) := by decide +kernel
theorem dX11_known_21 : decode cX11_known 21 = .ok (.aload_n 0, 1) := by decide +kernel
theorem dX11_known_22 : decode cX11_known 22 = .ok (.getfield 28, 3) := by decide +kernel
theorem dX11_known_25 : decode cX11_known 25 = .ok (.getfield 264, 3) := by decide +kernel
theorem dX11_known_28 : decode cX11_known 28 = .ok (.iload_n 1, 1) := by decide +kernel
theorem dX11_known_29 : decode cX11_known 29 = .ok (.iaload, 1) := by decide +kernel
theorem dX11_known_30 : decode cX11_known 30 = .ok (.ireturn, 1) := by decide +kernel
theorem dX11_least_0 : decode cX11_least 0 = .ok (.aload_n 0, 1) := by decide +kernel
theorem dX11_least_1 : decode cX11_least 1 = .ok (.iload_n 1, 1) := by decide +kernel
theorem dX11_least_2 : decode cX11_least 2 = .ok (.iload_n 2, 1) := by decide +kernel
theorem dX11_least_3 : decode cX11_least 3 = .ok (.invokevirtual 538, 3) := by decide +kernel
theorem dX11_least_6 : decode cX11_least 6 = .ok (.aload_n 0, 1) := by decide +kernel
theorem dX11_least_7 : decode cX11_least 7 = .ok (.getfield 92, 3) := by decide +kernel
theorem dX11_least_10 : decode cX11_least 10 = .ok (.iload_n 1, 1) := by decide +kernel
theorem dX11_least_11 : decode cX11_least 11 = .ok (.iload_n 2, 1) := by decide +kernel
theorem dX11_least_12 : decode cX11_least 12 = .ok (.invokevirtual 541, 3) := by decide +kernel
theorem dX11_least_15 : decode cX11_least 15 = .ok (.ireturn, 1) := by decide +kernel
theorem dX11_lineOf_0 : decode cX11_lineOf 0 = .ok (.aload_n 0, 1) := by decide +kernel
theorem dX11_lineOf_1 : decode cX11_lineOf 1 = .ok (.iload_n 1, 1) := by decide +kernel
theorem dX11_lineOf_2 : decode cX11_lineOf 2 = .ok (.invokevirtual 107, 3) := by decide +kernel
theorem dX11_lineOf_5 : decode cX11_lineOf 5 = .ok (.aload_n 0, 1) := by decide +kernel
theorem dX11_lineOf_6 : decode cX11_lineOf 6 = .ok (.getfield 21, 3) := by decide +kernel
theorem dX11_lineOf_9 : decode cX11_lineOf 9 = .ok (.getfield 216, 3) := by decide +kernel
theorem dX11_lineOf_12 : decode cX11_lineOf 12 = .ok (.iload_n 1, 1) := by decide +kernel
theorem dX11_lineOf_13 : decode cX11_lineOf 13 = .ok (.iaload, 1) := by decide +kernel
theorem dX11_lineOf_14 : decode cX11_lineOf 14 = .ok (.ireturn, 1) := by decide +kernel
theorem dX11_make_0 : decode cX11_make 0 = .ok (.aload_n 0, 1) := by decide +kernel
theorem dX11_make_1 : decode cX11_make 1 = .ok (.iload_n 1, 1) := by decide +kernel
theorem dX11_make_2 : decode cX11_make 2 = .ok (.invokevirtual 303, 3) := by decide +kernel
theorem dX11_make_5 : decode cX11_make 5 = .ok (.aload_n 0, 1) := by decide +kernel
theorem dX11_make_6 : decode cX11_make 6 = .ok (.getfield 37, 3) := by decide +kernel
theorem dX11_make_9 : decode cX11_make 9 = .ok (.iload_n 1, 1) := by decide +kernel
theorem dX11_make_10 : decode cX11_make 10 = .ok (.invokevirtual 306, 3) := by decide +kernel
theorem dX11_make_13 : decode cX11_make 13 = .ok (.istore_n 2, 1) := by decide +kernel
theorem dX11_make_14 : decode cX11_make 14 = .ok (.iload_n 2, 1) := by decide +kernel
theorem dX11_make_15 : decode cX11_make 15 = .ok (.ifCond .ge 11, 3) := by decide +kernel
theorem dX11_make_18 : decode cX11_make 18 = .ok (.new 310, 3) := by decide +kernel
theorem dX11_make_21 : decode cX11_make 21 = .ok (.dup, 1) := by decide +kernel
theorem dX11_make_22 : decode cX11_make 22 = .ok (.invokespecial 312, 3) := by decide +kernel
theorem dX11_make_25 : decode cX11_make 25 = .ok (.athrow, 1) := by decide +kernel
theorem dX11_make_26 : decode cX11_make 26 = .ok (.aload_n 0, 1) := by decide +kernel
theorem dX11_make_27 : decode cX11_make 27 = .ok (.getfield 28, 3) := by decide +kernel
theorem dX11_make_30 : decode cX11_make 30 = .ok (.getfield 103, 3) := by decide +kernel
theorem dX11_make_33 : decode cX11_make 33 = .ok (.bipush 32, 2) := by decide +kernel
theorem dX11_make_35 : decode cX11_make 35 = .ok (.if_icmp .lt 11, 3) := by decide +kernel
theorem dX11_make_38 : decode cX11_make 38 = .ok (.new 141, 3) := by decide +kernel
theorem dX11_make_41 : decode cX11_make 41 = .ok (.dup, 1) := by decide +kernel
theorem dX11_make_42 : decode cX11_make 42 = .ok (.invokespecial 143, 3) := by decide +kernel
theorem dX11_make_45 : decode cX11_make 45 = .ok (.athrow, 1) := by decide +kernel
theorem dX11_make_46 : decode cX11_make 46 = .ok (.aload_n 0, 1) := by decide +kernel
theorem dX11_make_47 : decode cX11_make 47 = .ok (.getfield 37, 3) := by decide +kernel
theorem dX11_make_50 : decode cX11_make 50 = .ok (.iload_n 1, 1) := by decide +kernel
theorem dX11_make_51 : decode cX11_make 51 = .ok (.iload_n 2, 1) := by decide +kernel
theorem dX11_make_52 : decode cX11_make 52 = .ok (.invokevirtual 313, 3) := by decide +kernel
theorem dX11_make_55 : decode cX11_make 55 = .ok (.istore_n 3, 1) := by decide +kernel
theorem dX11_make_56 : decode cX11_make 56 = .ok (.iconst 0, 1) := by decide +kernel
theorem dX11_make_57 : decode cX11_make 57 = .ok (.istore 4, 2) := by decide +kernel
theorem dX11_make_59 : decode cX11_make 59 = .ok (.iconst 0, 1) := by decide +kernel
theorem dX11_make_60 : decode cX11_make 60 = .ok (.istore 5, 2) := by decide +kernel
theorem dX11_make_62 : decode cX11_make 62 = .ok (.iload 5, 2) := by decide +kernel
theorem dX11_make_64 : decode cX11_make 64 = .ok (.iload_n 3, 1) := by decide +kernel
theorem dX11_make_65 : decode cX11_make 65 = .ok (.if_icmp .ge 27, 3) := by decide +kernel
theorem dX11_make_68 : decode cX11_make 68 = .ok (.iload 4, 2) := by decide +kernel
theorem dX11_make_70 : decode cX11_make 70 = .ok (.aload_n 0, 1) := by decide +kernel
theorem dX11_make_71 : decode cX11_make 71 = .ok (.getfield 37, 3) := by decide +kernel
theorem dX11_make_74 : decode cX11_make 74 = .ok (.iload_n 2, 1) := by decide +kernel
theorem dX11_make_75 : decode cX11_make 75 = .ok (.iload 5, 2) := by decide +kernel
theorem dX11_make_77 : decode cX11_make 77 = .ok (.invokevirtual 316, 3) := by decide +kernel
theorem dX11_make_80 : decode cX11_make 80 = .ok (.iload 5, 2) := by decide +kernel
theorem dX11_make_82 : decode cX11_make 82 = .ok (.ishl, 1) := by decide +kernel
theorem dX11_make_83 : decode cX11_make 83 = .ok (.ior, 1) := by decide +kernel
theorem dX11_make_84 : decode cX11_make 84 = .ok (.istore 4, 2) := by decide +kernel
theorem dX11_make_86 : decode cX11_make 86 = .ok (.iinc 5 1, 3) := by decide +kernel
theorem dX11_make_89 : decode cX11_make 89 = .ok (.goto (-27), 3) := by decide +kernel
theorem dX11_make_92 : decode cX11_make 92 = .ok (.aload_n 0, 1) := by decide +kernel
theorem dX11_make_93 : decode cX11_make 93 = .ok (.getfield 28, 3) := by decide +kernel
theorem dX11_make_96 : decode cX11_make 96 = .ok (.iconst 1, 1) := by decide +kernel
theorem dX11_make_97 : decode cX11_make 97 = .ok (.iload_n 3, 1) := by decide +kernel
theorem dX11_make_98 : decode cX11_make 98 = .ok (.ishl, 1) := by decide +kernel
theorem dX11_make_99 : decode cX11_make 99 = .ok (.iconst 1, 1) := by decide +kernel
theorem dX11_make_100 : decode cX11_make 100 = .ok (.isub, 1) := by decide +kernel
theorem dX11_make_101 : decode cX11_make 101 = .ok (.iload 4, 2) := by decide +kernel
theorem dX11_make_103 : decode cX11_make 103 = .ok (.invokevirtual 196, 3) := by decide +kernel
theorem dX11_make_106 : decode cX11_make 106 = .ok (.ireturn, 1) := by decide +kernel
theorem dX11_merge_0 : decode cX11_merge 0 = .ok (.aload_n 0, 1) := by decide +kernel
theorem dX11_merge_1 : decode cX11_merge 1 = .ok (.iload_n 1, 1) := by decide +kernel
theorem dX11_merge_2 : decode cX11_merge 2 = .ok (.invokevirtual 200, 3) := by decide +kernel
theorem dX11_merge_5 : decode cX11_merge 5 = .ok (.aload_n 0, 1) := by decide +kernel
theorem dX11_merge_6 : decode cX11_merge 6 = .ok (.iload_n 2, 1) := by decide +kernel
theorem dX11_merge_7 : decode cX11_merge 7 = .ok (.invokevirtual 200, 3) := by decide +kernel
theorem dX11_merge_10 : decode cX11_merge 10 = .ok (.iload_n 1, 1) := by decide +kernel
theorem dX11_merge_11 : decode cX11_merge 11 = .ok (.iload_n 2, 1) := by decide +kernel
theorem dX11_merge_12 : decode cX11_merge 12 = .ok (.if_icmp .eq 15, 3) := by decide +kernel
theorem dX11_merge_15 : decode cX11_merge 15 = .ok (.aload_n 0, 1) := by decide +kernel
theorem dX11_merge_16 : decode cX11_merge 16 = .ok (.getfield 28, 3) := by decide +kernel
theorem dX11_merge_19 : decode cX11_merge 19 = .ok (.iload_n 1, 1) := by decide +kernel
theorem dX11_merge_20 : decode cX11_merge 20 = .ok (.iload_n 2, 1) := by decide +kernel
theorem dX11_merge_21 : decode cX11_merge 21 = .ok (.invokevirtual 331, 3) := by decide +kernel
theorem dX11_merge_24 : decode cX11_merge 24 = .ok (.ifCond .ne 11, 3) := by decide +kernel
theorem dX11_merge_27 : decode cX11_merge 27 = .ok (.new 125, 3) := by decide +kernel
theorem dX11_merge_30 : decode cX11_merge 30 = .ok (.dup, 1) := by decide +kernel
theorem dX11_merge_31 : decode cX11_merge 31 = .ok (.invokespecial 127, 3) := by decide +kernel
theorem dX11_merge_34 : decode cX11_merge 34 = .ok (.athrow, 1) := by decide +kernel
theorem dX11_merge_35 : decode cX11_merge 35 = .ok (.aload_n 0, 1) := by decide +kernel
theorem dX11_merge_36 : decode cX11_merge 36 = .ok (.getfield 28, 3) := by decide +kernel
theorem dX11_merge_39 : decode cX11_merge 39 = .ok (.iload_n 1, 1) := by decide +kernel
theorem dX11_merge_40 : decode cX11_merge 40 = .ok (.iload_n 2, 1) := by decide +kernel
theorem dX11_merge_41 : decode cX11_merge 41 = .ok (.invokevirtual 334, 3) := by decide +kernel
theorem dX11_merge_44 : decode cX11_merge 44 = .ok (.aload_n 0, 1) := by decide +kernel
theorem dX11_merge_45 : decode cX11_merge 45 = .ok (.getfield 28, 3) := by decide +kernel
theorem dX11_merge_48 : decode cX11_merge 48 = .ok (.iload_n 2, 1) := by decide +kernel
theorem dX11_merge_49 : decode cX11_merge 49 = .ok (.invokevirtual 337, 3) := by decide +kernel
theorem dX11_merge_52 : decode cX11_merge 52 = .ok (.aload_n 0, 1) := by decide +kernel
theorem dX11_merge_53 : decode cX11_merge 53 = .ok (.getfield 28, 3) := by decide +kernel
theorem dX11_merge_56 : decode cX11_merge 56 = .ok (.getfield 103, 3) := by decide +kernel
theorem dX11_merge_59 : decode cX11_merge 59 = .ok (.ireturn, 1) := by decide +kernel
theorem dX11_needClosedNet_0 : decode cX11_needClosedNet 0 = .ok (.aload_n 0, 1) := by decide +kernel
theorem dX11_needClosedNet_1 : decode cX11_needClosedNet 1 = .ok (.getfield 10, 3) := by decide +kernel
theorem dX11_needClosedNet_4 : decode cX11_needClosedNet 4 = .ok (.getfield 121, 3) := by decide +kernel
theorem dX11_needClosedNet_7 : decode cX11_needClosedNet 7 = .ok (.ifCond .ne 11, 3) := by decide +kernel
theorem dX11_needClosedNet_10 : decode cX11_needClosedNet 10 = .ok (.new 125, 3) := by decide +kernel
theorem dX11_needClosedNet_13 : decode cX11_needClosedNet 13 = .ok (.dup, 1) := by decide +kernel
theorem dX11_needClosedNet_14 : decode cX11_needClosedNet 14 = .ok (.invokespecial 127, 3) := by decide +kernel
theorem dX11_needClosedNet_17 : decode cX11_needClosedNet 17 = .ok (.athrow, 1) := by decide +kernel
theorem dX11_needClosedNet_18 : decode cX11_needClosedNet 18 = .ok (.return_, 1) := by decide +kernel
theorem dX11_needCode_0 : decode cX11_needCode 0 = .ok (.iload_n 1, 1) := by decide +kernel
theorem dX11_needCode_1 : decode cX11_needCode 1 = .ok (.bipush 99, 2) := by decide +kernel
theorem dX11_needCode_3 : decode cX11_needCode 3 = .ok (.if_icmp .eq 17, 3) := by decide +kernel
theorem dX11_needCode_6 : decode cX11_needCode 6 = .ok (.iload_n 1, 1) := by decide +kernel
theorem dX11_needCode_7 : decode cX11_needCode 7 = .ok (.bipush 116, 2) := by decide +kernel
theorem dX11_needCode_9 : decode cX11_needCode 9 = .ok (.if_icmp .eq 11, 3) := by decide +kernel
theorem dX11_needCode_12 : decode cX11_needCode 12 = .ok (.new 114, 3) := by decide +kernel
theorem dX11_needCode_15 : decode cX11_needCode 15 = .ok (.dup, 1) := by decide +kernel
theorem dX11_needCode_16 : decode cX11_needCode 16 = .ok (.invokespecial 116, 3) := by decide +kernel
theorem dX11_needCode_19 : decode cX11_needCode 19 = .ok (.athrow, 1) := by decide +kernel
theorem dX11_needCode_20 : decode cX11_needCode 20 = .ok (.return_, 1) := by decide +kernel
theorem dX11_needFault_0 : decode cX11_needFault 0 = .ok (.iload_n 1, 1) := by decide +kernel
theorem dX11_needFault_1 : decode cX11_needFault 1 = .ok (.ifCond .lt 14, 3) := by decide +kernel
theorem dX11_needFault_4 : decode cX11_needFault 4 = .ok (.iload_n 1, 1) := by decide +kernel
theorem dX11_needFault_5 : decode cX11_needFault 5 = .ok (.aload_n 0, 1) := by decide +kernel
theorem dX11_needFault_6 : decode cX11_needFault 6 = .ok (.getfield 21, 3) := by decide +kernel
theorem dX11_needFault_9 : decode cX11_needFault 9 = .ok (.getfield 106, 3) := by decide +kernel
theorem dX11_needFault_12 : decode cX11_needFault 12 = .ok (.if_icmp .lt 11, 3) := by decide +kernel
theorem dX11_needFault_15 : decode cX11_needFault 15 = .ok (.new 100, 3) := by decide +kernel
theorem dX11_needFault_18 : decode cX11_needFault 18 = .ok (.dup, 1) := by decide +kernel
theorem dX11_needFault_19 : decode cX11_needFault 19 = .ok (.invokespecial 102, 3) := by decide +kernel
theorem dX11_needFault_22 : decode cX11_needFault 22 = .ok (.athrow, 1) := by decide +kernel
theorem dX11_needFault_23 : decode cX11_needFault 23 = .ok (.return_, 1) := by decide +kernel
theorem dX11_needLine_0 : decode cX11_needLine 0 = .ok (.iload_n 1, 1) := by decide +kernel
theorem dX11_needLine_1 : decode cX11_needLine 1 = .ok (.ifCond .lt 14, 3) := by decide +kernel
theorem dX11_needLine_4 : decode cX11_needLine 4 = .ok (.iload_n 1, 1) := by decide +kernel
theorem dX11_needLine_5 : decode cX11_needLine 5 = .ok (.aload_n 0, 1) := by decide +kernel
theorem dX11_needLine_6 : decode cX11_needLine 6 = .ok (.getfield 10, 3) := by decide +kernel
theorem dX11_needLine_9 : decode cX11_needLine 9 = .ok (.getfield 96, 3) := by decide +kernel
theorem dX11_needLine_12 : decode cX11_needLine 12 = .ok (.if_icmp .lt 11, 3) := by decide +kernel
theorem dX11_needLine_15 : decode cX11_needLine 15 = .ok (.new 100, 3) := by decide +kernel
theorem dX11_needLine_18 : decode cX11_needLine 18 = .ok (.dup, 1) := by decide +kernel
theorem dX11_needLine_19 : decode cX11_needLine 19 = .ok (.invokespecial 102, 3) := by decide +kernel
theorem dX11_needLine_22 : decode cX11_needLine 22 = .ok (.athrow, 1) := by decide +kernel
theorem dX11_needLine_23 : decode cX11_needLine 23 = .ok (.return_, 1) := by decide +kernel
theorem dX11_needNotSlow_0 : decode cX11_needNotSlow 0 = .ok (.aload_n 0, 1) := by decide +kernel
theorem dX11_needNotSlow_1 : decode cX11_needNotSlow 1 = .ok (.iload_n 1, 1) := by decide +kernel
theorem dX11_needNotSlow_2 : decode cX11_needNotSlow 2 = .ok (.invokevirtual 107, 3) := by decide +kernel
theorem dX11_needNotSlow_5 : decode cX11_needNotSlow 5 = .ok (.aload_n 0, 1) := by decide +kernel
theorem dX11_needNotSlow_6 : decode cX11_needNotSlow 6 = .ok (.getfield 21, 3) := by decide +kernel
theorem dX11_needNotSlow_9 : decode cX11_needNotSlow 9 = .ok (.getfield 117, 3) := by decide +kernel
theorem dX11_needNotSlow_12 : decode cX11_needNotSlow 12 = .ok (.iload_n 1, 1) := by decide +kernel
theorem dX11_needNotSlow_13 : decode cX11_needNotSlow 13 = .ok (.caload, 1) := by decide +kernel
theorem dX11_needNotSlow_14 : decode cX11_needNotSlow 14 = .ok (.bipush 108, 2) := by decide +kernel
theorem dX11_needNotSlow_16 : decode cX11_needNotSlow 16 = .ok (.if_icmp .ne 11, 3) := by decide +kernel
theorem dX11_needNotSlow_19 : decode cX11_needNotSlow 19 = .ok (.new 114, 3) := by decide +kernel
theorem dX11_needNotSlow_22 : decode cX11_needNotSlow 22 = .ok (.dup, 1) := by decide +kernel
theorem dX11_needNotSlow_23 : decode cX11_needNotSlow 23 = .ok (.invokespecial 116, 3) := by decide +kernel
theorem dX11_needNotSlow_26 : decode cX11_needNotSlow 26 = .ok (.athrow, 1) := by decide +kernel
theorem dX11_needNotSlow_27 : decode cX11_needNotSlow 27 = .ok (.return_, 1) := by decide +kernel
theorem dX11_needOpenNet_0 : decode cX11_needOpenNet 0 = .ok (.aload_n 0, 1) := by decide +kernel
theorem dX11_needOpenNet_1 : decode cX11_needOpenNet 1 = .ok (.getfield 10, 3) := by decide +kernel
theorem dX11_needOpenNet_4 : decode cX11_needOpenNet 4 = .ok (.getfield 121, 3) := by decide +kernel
theorem dX11_needOpenNet_7 : decode cX11_needOpenNet 7 = .ok (.ifCond .eq 11, 3) := by decide +kernel
theorem dX11_needOpenNet_10 : decode cX11_needOpenNet 10 = .ok (.new 125, 3) := by decide +kernel
theorem dX11_needOpenNet_13 : decode cX11_needOpenNet 13 = .ok (.dup, 1) := by decide +kernel
theorem dX11_needOpenNet_14 : decode cX11_needOpenNet 14 = .ok (.invokespecial 127, 3) := by decide +kernel
theorem dX11_needOpenNet_17 : decode cX11_needOpenNet 17 = .ok (.athrow, 1) := by decide +kernel
theorem dX11_needOpenNet_18 : decode cX11_needOpenNet 18 = .ok (.return_, 1) := by decide +kernel
theorem dX11_needPattern_0 : decode cX11_needPattern 0 = .ok (.iload_n 1, 1) := by decide +kernel
theorem dX11_needPattern_1 : decode cX11_needPattern 1 = .ok (.ifCond .lt 14, 3) := by decide +kernel
theorem dX11_needPattern_4 : decode cX11_needPattern 4 = .ok (.iload_n 1, 1) := by decide +kernel
theorem dX11_needPattern_5 : decode cX11_needPattern 5 = .ok (.aload_n 0, 1) := by decide +kernel
theorem dX11_needPattern_6 : decode cX11_needPattern 6 = .ok (.getfield 28, 3) := by decide +kernel
theorem dX11_needPattern_9 : decode cX11_needPattern 9 = .ok (.getfield 103, 3) := by decide +kernel
theorem dX11_needPattern_12 : decode cX11_needPattern 12 = .ok (.if_icmp .lt 11, 3) := by decide +kernel
theorem dX11_needPattern_15 : decode cX11_needPattern 15 = .ok (.new 100, 3) := by decide +kernel
theorem dX11_needPattern_18 : decode cX11_needPattern 18 = .ok (.dup, 1) := by decide +kernel
theorem dX11_needPattern_19 : decode cX11_needPattern 19 = .ok (.invokespecial 102, 3) := by decide +kernel
theorem dX11_needPattern_22 : decode cX11_needPattern 22 = .ok (.athrow, 1) := by decide +kernel
theorem dX11_needPattern_23 : decode cX11_needPattern 23 = .ok (.return_, 1) := by decide +kernel
theorem dX11_needRange_0 : decode cX11_needRange 0 = .ok (.iload_n 0, 1) := by decide +kernel
theorem dX11_needRange_1 : decode cX11_needRange 1 = .ok (.iload_n 1, 1) := by decide +kernel
theorem dX11_needRange_2 : decode cX11_needRange 2 = .ok (.if_icmp .lt 8, 3) := by decide +kernel
theorem dX11_needRange_5 : decode cX11_needRange 5 = .ok (.iload_n 0, 1) := by decide +kernel
theorem dX11_needRange_6 : decode cX11_needRange 6 = .ok (.iload_n 2, 1) := by decide +kernel
theorem dX11_needRange_7 : decode cX11_needRange 7 = .ok (.if_icmp .le 11, 3) := by decide +kernel
theorem dX11_needRange_10 : decode cX11_needRange 10 = .ok (.new 114, 3) := by decide +kernel
theorem dX11_needRange_13 : decode cX11_needRange 13 = .ok (.dup, 1) := by decide +kernel
theorem dX11_needRange_14 : decode cX11_needRange 14 = .ok (.invokespecial 116, 3) := by decide +kernel
theorem dX11_needRange_17 : decode cX11_needRange 17 = .ok (.athrow, 1) := by decide +kernel
theorem dX11_needRange_18 : decode cX11_needRange 18 = .ok (.return_, 1) := by decide +kernel
theorem dX11_needRoomForCores_0 : decode cX11_needRoomForCores 0 = .ok (.aload_n 0, 1) := by decide +kernel
theorem dX11_needRoomForCores_1 : decode cX11_needRoomForCores 1 = .ok (.getfield 92, 3) := by decide +kernel
theorem dX11_needRoomForCores_4 : decode cX11_needRoomForCores 4 = .ok (.getfield 535, 3) := by decide +kernel
theorem dX11_needRoomForCores_7 : decode cX11_needRoomForCores 7 = .ok (.ifCond .eq 15, 3) := by decide +kernel
theorem dX11_needRoomForCores_10 : decode cX11_needRoomForCores 10 = .ok (.aload_n 0, 1) := by decide +kernel
theorem dX11_needRoomForCores_11 : decode cX11_needRoomForCores 11 = .ok (.getfield 92, 3) := by decide +kernel
theorem dX11_needRoomForCores_14 : decode cX11_needRoomForCores 14 = .ok (.iload_n 1, 1) := by decide +kernel
theorem dX11_needRoomForCores_15 : decode cX11_needRoomForCores 15 = .ok (.iload_n 2, 1) := by decide +kernel
theorem dX11_needRoomForCores_16 : decode cX11_needRoomForCores 16 = .ok (.invokevirtual 547, 3) := by decide +kernel
theorem dX11_needRoomForCores_19 : decode cX11_needRoomForCores 19 = .ok (.ifCond .ne 11, 3) := by decide +kernel
theorem dX11_needRoomForCores_22 : decode cX11_needRoomForCores 22 = .ok (.new 310, 3) := by decide +kernel
theorem dX11_needRoomForCores_25 : decode cX11_needRoomForCores 25 = .ok (.dup, 1) := by decide +kernel
theorem dX11_needRoomForCores_26 : decode cX11_needRoomForCores 26 = .ok (.invokespecial 312, 3) := by decide +kernel
theorem dX11_needRoomForCores_29 : decode cX11_needRoomForCores 29 = .ok (.athrow, 1) := by decide +kernel
theorem dX11_needRoomForCores_30 : decode cX11_needRoomForCores 30 = .ok (.return_, 1) := by decide +kernel
theorem dX11_needStuck_0 : decode cX11_needStuck 0 = .ok (.aload_n 0, 1) := by decide +kernel
theorem dX11_needStuck_1 : decode cX11_needStuck 1 = .ok (.iload_n 1, 1) := by decide +kernel
theorem dX11_needStuck_2 : decode cX11_needStuck 2 = .ok (.invokevirtual 107, 3) := by decide +kernel
theorem dX11_needStuck_5 : decode cX11_needStuck 5 = .ok (.iload_n 1, 1) := by decide +kernel
theorem dX11_needStuck_6 : decode cX11_needStuck 6 = .ok (.aload_n 0, 1) := by decide +kernel
theorem dX11_needStuck_7 : decode cX11_needStuck 7 = .ok (.getfield 21, 3) := by decide +kernel
theorem dX11_needStuck_10 : decode cX11_needStuck 10 = .ok (.getfield 111, 3) := by decide +kernel
theorem dX11_needStuck_13 : decode cX11_needStuck 13 = .ok (.if_icmp .lt 11, 3) := by decide +kernel
theorem dX11_needStuck_16 : decode cX11_needStuck 16 = .ok (.new 114, 3) := by decide +kernel
theorem dX11_needStuck_19 : decode cX11_needStuck 19 = .ok (.dup, 1) := by decide +kernel
theorem dX11_needStuck_20 : decode cX11_needStuck 20 = .ok (.invokespecial 116, 3) := by decide +kernel
theorem dX11_needStuck_23 : decode cX11_needStuck 23 = .ok (.athrow, 1) := by decide +kernel
theorem dX11_needStuck_24 : decode cX11_needStuck 24 = .ok (.return_, 1) := by decide +kernel
theorem dX11_needWire_0 : decode cX11_needWire 0 = .ok (.iload_n 1, 1) := by decide +kernel
theorem dX11_needWire_1 : decode cX11_needWire 1 = .ok (.ifCond .lt 14, 3) := by decide +kernel
theorem dX11_needWire_4 : decode cX11_needWire 4 = .ok (.iload_n 1, 1) := by decide +kernel
theorem dX11_needWire_5 : decode cX11_needWire 5 = .ok (.aload_n 0, 1) := by decide +kernel
theorem dX11_needWire_6 : decode cX11_needWire 6 = .ok (.getfield 85, 3) := by decide +kernel
theorem dX11_needWire_9 : decode cX11_needWire 9 = .ok (.getfield 128, 3) := by decide +kernel
theorem dX11_needWire_12 : decode cX11_needWire 12 = .ok (.if_icmp .lt 11, 3) := by decide +kernel
theorem dX11_needWire_15 : decode cX11_needWire 15 = .ok (.new 100, 3) := by decide +kernel
theorem dX11_needWire_18 : decode cX11_needWire 18 = .ok (.dup, 1) := by decide +kernel
theorem dX11_needWire_19 : decode cX11_needWire 19 = .ok (.invokespecial 102, 3) := by decide +kernel
theorem dX11_needWire_22 : decode cX11_needWire 22 = .ok (.athrow, 1) := by decide +kernel
theorem dX11_needWire_23 : decode cX11_needWire 23 = .ok (.return_, 1) := by decide +kernel
theorem dX11_openWire_0 : decode cX11_openWire 0 = .ok (.aload_n 0, 1) := by decide +kernel
theorem dX11_openWire_1 : decode cX11_openWire 1 = .ok (.iload_n 1, 1) := by decide +kernel
theorem dX11_openWire_2 : decode cX11_openWire 2 = .ok (.invokevirtual 515, 3) := by decide +kernel
theorem dX11_openWire_5 : decode cX11_openWire 5 = .ok (.iload_n 2, 1) := by decide +kernel
theorem dX11_openWire_6 : decode cX11_openWire 6 = .ok (.iconst 0, 1) := by decide +kernel
theorem dX11_openWire_7 : decode cX11_openWire 7 = .ok (.iconst 1, 1) := by decide +kernel
theorem dX11_openWire_8 : decode cX11_openWire 8 = .ok (.invokestatic 361, 3) := by decide +kernel
theorem dX11_openWire_11 : decode cX11_openWire 11 = .ok (.aload_n 0, 1) := by decide +kernel
theorem dX11_openWire_12 : decode cX11_openWire 12 = .ok (.getfield 85, 3) := by decide +kernel
theorem dX11_openWire_15 : decode cX11_openWire 15 = .ok (.iload_n 1, 1) := by decide +kernel
theorem dX11_openWire_16 : decode cX11_openWire 16 = .ok (.invokevirtual 518, 3) := by decide +kernel
theorem dX11_openWire_19 : decode cX11_openWire 19 = .ok (.ifCond .ne 7, 3) := by decide +kernel
theorem dX11_openWire_22 : decode cX11_openWire 22 = .ok (.iconst 1, 1) := by decide +kernel
theorem dX11_openWire_23 : decode cX11_openWire 23 = .ok (.goto 4, 3) := by decide +kernel
theorem dX11_openWire_26 : decode cX11_openWire 26 = .ok (.iconst 0, 1) := by decide +kernel
theorem dX11_openWire_27 : decode cX11_openWire 27 = .ok (.istore_n 3, 1) := by decide +kernel
theorem dX11_openWire_28 : decode cX11_openWire 28 = .ok (.aload_n 0, 1) := by decide +kernel
theorem dX11_openWire_29 : decode cX11_openWire 29 = .ok (.getfield 85, 3) := by decide +kernel
theorem dX11_openWire_32 : decode cX11_openWire 32 = .ok (.getfield 521, 3) := by decide +kernel
theorem dX11_openWire_35 : decode cX11_openWire 35 = .ok (.iload_n 1, 1) := by decide +kernel
theorem dX11_openWire_36 : decode cX11_openWire 36 = .ok (.iload_n 2, 1) := by decide +kernel
theorem dX11_openWire_37 : decode cX11_openWire 37 = .ok (.iastore, 1) := by decide +kernel
theorem dX11_openWire_38 : decode cX11_openWire 38 = .ok (.iload_n 3, 1) := by decide +kernel
theorem dX11_openWire_39 : decode cX11_openWire 39 = .ok (.ireturn, 1) := by decide +kernel
theorem dX11_orderAt_0 : decode cX11_orderAt 0 = .ok (.iload_n 1, 1) := by decide +kernel
theorem dX11_orderAt_1 : decode cX11_orderAt 1 = .ok (.ifCond .lt 14, 3) := by decide +kernel
theorem dX11_orderAt_4 : decode cX11_orderAt 4 = .ok (.iload_n 1, 1) := by decide +kernel
theorem dX11_orderAt_5 : decode cX11_orderAt 5 = .ok (.aload_n 0, 1) := by decide +kernel
theorem dX11_orderAt_6 : decode cX11_orderAt 6 = .ok (.getfield 28, 3) := by decide +kernel
theorem dX11_orderAt_9 : decode cX11_orderAt 9 = .ok (.getfield 103, 3) := by decide +kernel
theorem dX11_orderAt_12 : decode cX11_orderAt 12 = .ok (.if_icmp .lt 11, 3) := by decide +kernel
theorem dX11_orderAt_15 : decode cX11_orderAt 15 = .ok (.new 310, 3) := by decide +kernel
theorem dX11_orderAt_18 : decode cX11_orderAt 18 = .ok (.dup, 1) := by decide +kernel
theorem dX11_orderAt_19 : decode cX11_orderAt 19 = .ok (.invokespecial 312, 3) := by decide +kernel
theorem dX11_orderAt_22 : decode cX11_orderAt 22 = .ok (.athrow, 1) := by decide +kernel
theorem dX11_orderAt_23 : decode cX11_orderAt 23 = .ok (.aload_n 0, 1) := by decide +kernel
theorem dX11_orderAt_24 : decode cX11_orderAt 24 = .ok (.getfield 37, 3) := by decide +kernel
theorem dX11_orderAt_27 : decode cX11_orderAt 27 = .ok (.aload_n 0, 1) := by decide +kernel
theorem dX11_orderAt_28 : decode cX11_orderAt 28 = .ok (.getfield 28, 3) := by decide +kernel
theorem dX11_orderAt_31 : decode cX11_orderAt 31 = .ok (.invokevirtual 276, 3) := by decide +kernel
theorem dX11_orderAt_34 : decode cX11_orderAt 34 = .ok (.aload_n 0, 1) := by decide +kernel
theorem dX11_orderAt_35 : decode cX11_orderAt 35 = .ok (.getfield 28, 3) := by decide +kernel
theorem dX11_orderAt_38 : decode cX11_orderAt 38 = .ok (.aload_n 0, 1) := by decide +kernel
theorem dX11_orderAt_39 : decode cX11_orderAt 39 = .ok (.getfield 37, 3) := by decide +kernel
theorem dX11_orderAt_42 : decode cX11_orderAt 42 = .ok (.aload_n 0, 1) := by decide +kernel
theorem dX11_orderAt_43 : decode cX11_orderAt 43 = .ok (.getfield 21, 3) := by decide +kernel
theorem dX11_orderAt_46 : decode cX11_orderAt 46 = .ok (.invokevirtual 471, 3) := by decide +kernel
theorem dX11_orderAt_49 : decode cX11_orderAt 49 = .ok (.aload_n 0, 1) := by decide +kernel
theorem dX11_orderAt_50 : decode cX11_orderAt 50 = .ok (.getfield 28, 3) := by decide +kernel
theorem dX11_orderAt_53 : decode cX11_orderAt 53 = .ok (.getfield 475, 3) := by decide +kernel
theorem dX11_orderAt_56 : decode cX11_orderAt 56 = .ok (.iload_n 1, 1) := by decide +kernel
theorem dX11_orderAt_57 : decode cX11_orderAt 57 = .ok (.iaload, 1) := by decide +kernel
theorem dX11_orderAt_58 : decode cX11_orderAt 58 = .ok (.ireturn, 1) := by decide +kernel
theorem dX11_output_0 : decode cX11_output 0 = .ok (.aload_n 0, 1) := by decide +kernel
theorem dX11_output_1 : decode cX11_output 1 = .ok (.iload_n 1, 1) := by decide +kernel
theorem dX11_output_2 : decode cX11_output 2 = .ok (.invokevirtual 149, 3) := by decide +kernel
theorem dX11_output_5 : decode cX11_output 5 = .ok (.aload_n 0, 1) := by decide +kernel
theorem dX11_output_6 : decode cX11_output 6 = .ok (.invokevirtual 135, 3) := by decide +kernel
theorem dX11_output_9 : decode cX11_output 9 = .ok (.aload_n 0, 1) := by decide +kernel
theorem dX11_output_10 : decode cX11_output 10 = .ok (.getfield 10, 3) := by decide +kernel
theorem dX11_output_13 : decode cX11_output 13 = .ok (.getfield 163, 3) := by decide +kernel
theorem dX11_output_16 : decode cX11_output 16 = .ok (.iload_n 1, 1) := by decide +kernel
theorem dX11_output_17 : decode cX11_output 17 = .ok (.baload, 1) := by decide +kernel
theorem dX11_output_18 : decode cX11_output 18 = .ok (.ifCond .ne 7, 3) := by decide +kernel
theorem dX11_output_21 : decode cX11_output 21 = .ok (.iconst 1, 1) := by decide +kernel
theorem dX11_output_22 : decode cX11_output 22 = .ok (.goto 4, 3) := by decide +kernel
theorem dX11_output_25 : decode cX11_output 25 = .ok (.iconst 0, 1) := by decide +kernel
theorem dX11_output_26 : decode cX11_output 26 = .ok (.istore_n 2, 1) := by decide +kernel
theorem dX11_output_27 : decode cX11_output 27 = .ok (.aload_n 0, 1) := by decide +kernel
theorem dX11_output_28 : decode cX11_output 28 = .ok (.getfield 10, 3) := by decide +kernel
theorem dX11_output_31 : decode cX11_output 31 = .ok (.getfield 163, 3) := by decide +kernel
theorem dX11_output_34 : decode cX11_output 34 = .ok (.iload_n 1, 1) := by decide +kernel
theorem dX11_output_35 : decode cX11_output 35 = .ok (.iconst 1, 1) := by decide +kernel
theorem dX11_output_36 : decode cX11_output 36 = .ok (.bastore, 1) := by decide +kernel
theorem dX11_output_37 : decode cX11_output 37 = .ok (.iload_n 2, 1) := by decide +kernel
theorem dX11_output_38 : decode cX11_output 38 = .ok (.ireturn, 1) := by decide +kernel
theorem dX11_pattern_0 : decode cX11_pattern 0 = .ok (.iload_n 1, 1) := by decide +kernel
theorem dX11_pattern_1 : decode cX11_pattern 1 = .ok (.aload_n 0, 1) := by decide +kernel
theorem dX11_pattern_2 : decode cX11_pattern 2 = .ok (.getfield 10, 3) := by decide +kernel
theorem dX11_pattern_5 : decode cX11_pattern 5 = .ok (.invokevirtual 192, 3) := by decide +kernel
theorem dX11_pattern_8 : decode cX11_pattern 8 = .ok (.iconst (-1), 1) := by decide +kernel
theorem dX11_pattern_9 : decode cX11_pattern 9 = .ok (.ixor, 1) := by decide +kernel
theorem dX11_pattern_10 : decode cX11_pattern 10 = .ok (.iand, 1) := by decide +kernel
theorem dX11_pattern_11 : decode cX11_pattern 11 = .ok (.ifCond .ne 11, 3) := by decide +kernel
theorem dX11_pattern_14 : decode cX11_pattern 14 = .ok (.iload_n 2, 1) := by decide +kernel
theorem dX11_pattern_15 : decode cX11_pattern 15 = .ok (.iload_n 1, 1) := by decide +kernel
theorem dX11_pattern_16 : decode cX11_pattern 16 = .ok (.iconst (-1), 1) := by decide +kernel
theorem dX11_pattern_17 : decode cX11_pattern 17 = .ok (.ixor, 1) := by decide +kernel
theorem dX11_pattern_18 : decode cX11_pattern 18 = .ok (.iand, 1) := by decide +kernel
theorem dX11_pattern_19 : decode cX11_pattern 19 = .ok (.ifCond .eq 11, 3) := by decide +kernel
theorem dX11_pattern_22 : decode cX11_pattern 22 = .ok (.new 114, 3) := by decide +kernel
theorem dX11_pattern_25 : decode cX11_pattern 25 = .ok (.dup, 1) := by decide +kernel
theorem dX11_pattern_26 : decode cX11_pattern 26 = .ok (.invokespecial 116, 3) := by decide +kernel
theorem dX11_pattern_29 : decode cX11_pattern 29 = .ok (.athrow, 1) := by decide +kernel
theorem dX11_pattern_30 : decode cX11_pattern 30 = .ok (.aload_n 0, 1) := by decide +kernel
theorem dX11_pattern_31 : decode cX11_pattern 31 = .ok (.invokevirtual 177, 3) := by decide +kernel
theorem dX11_pattern_34 : decode cX11_pattern 34 = .ok (.aload_n 0, 1) := by decide +kernel
theorem dX11_pattern_35 : decode cX11_pattern 35 = .ok (.getfield 28, 3) := by decide +kernel
theorem dX11_pattern_38 : decode cX11_pattern 38 = .ok (.getfield 103, 3) := by decide +kernel
theorem dX11_pattern_41 : decode cX11_pattern 41 = .ok (.bipush 32, 2) := by decide +kernel
theorem dX11_pattern_43 : decode cX11_pattern 43 = .ok (.if_icmp .lt 11, 3) := by decide +kernel
theorem dX11_pattern_46 : decode cX11_pattern 46 = .ok (.new 141, 3) := by decide +kernel
theorem dX11_pattern_49 : decode cX11_pattern 49 = .ok (.dup, 1) := by decide +kernel
theorem dX11_pattern_50 : decode cX11_pattern 50 = .ok (.invokespecial 143, 3) := by decide +kernel
theorem dX11_pattern_53 : decode cX11_pattern 53 = .ok (.athrow, 1) := by decide +kernel
theorem dX11_pattern_54 : decode cX11_pattern 54 = .ok (.aload_n 0, 1) := by decide +kernel
theorem dX11_pattern_55 : decode cX11_pattern 55 = .ok (.getfield 28, 3) := by decide +kernel
theorem dX11_pattern_58 : decode cX11_pattern 58 = .ok (.iload_n 1, 1) := by decide +kernel
theorem dX11_pattern_59 : decode cX11_pattern 59 = .ok (.iload_n 2, 1) := by decide +kernel
theorem dX11_pattern_60 : decode cX11_pattern 60 = .ok (.invokevirtual 196, 3) := by decide +kernel
theorem dX11_pattern_63 : decode cX11_pattern 63 = .ok (.ireturn, 1) := by decide +kernel
theorem dX11_patterns_0 : decode cX11_patterns 0 = .ok (.aload_n 0, 1) := by decide +kernel
theorem dX11_patterns_1 : decode cX11_patterns 1 = .ok (.getfield 28, 3) := by decide +kernel
theorem dX11_patterns_4 : decode cX11_patterns 4 = .ok (.getfield 103, 3) := by decide +kernel
theorem dX11_patterns_7 : decode cX11_patterns 7 = .ok (.ireturn, 1) := by decide +kernel
theorem dX11_pinOf_0 : decode cX11_pinOf 0 = .ok (.aload_n 0, 1) := by decide +kernel
theorem dX11_pinOf_1 : decode cX11_pinOf 1 = .ok (.iload_n 1, 1) := by decide +kernel
theorem dX11_pinOf_2 : decode cX11_pinOf 2 = .ok (.invokevirtual 107, 3) := by decide +kernel
theorem dX11_pinOf_5 : decode cX11_pinOf 5 = .ok (.aload_n 0, 1) := by decide +kernel
theorem dX11_pinOf_6 : decode cX11_pinOf 6 = .ok (.getfield 21, 3) := by decide +kernel
theorem dX11_pinOf_9 : decode cX11_pinOf 9 = .ok (.getfield 219, 3) := by decide +kernel
theorem dX11_pinOf_12 : decode cX11_pinOf 12 = .ok (.iload_n 1, 1) := by decide +kernel
theorem dX11_pinOf_13 : decode cX11_pinOf 13 = .ok (.iaload, 1) := by decide +kernel
theorem dX11_pinOf_14 : decode cX11_pinOf 14 = .ok (.ireturn, 1) := by decide +kernel
theorem dX11_power_0 : decode cX11_power 0 = .ok (.aload_n 0, 1) := by decide +kernel
theorem dX11_power_1 : decode cX11_power 1 = .ok (.iload_n 1, 1) := by decide +kernel
theorem dX11_power_2 : decode cX11_power 2 = .ok (.invokevirtual 200, 3) := by decide +kernel
theorem dX11_power_5 : decode cX11_power 5 = .ok (.aload_n 0, 1) := by decide +kernel
theorem dX11_power_6 : decode cX11_power 6 = .ok (.getfield 28, 3) := by decide +kernel
theorem dX11_power_9 : decode cX11_power 9 = .ok (.iload_n 1, 1) := by decide +kernel
theorem dX11_power_10 : decode cX11_power 10 = .ok (.aload_n 0, 1) := by decide +kernel
theorem dX11_power_11 : decode cX11_power 11 = .ok (.getfield 10, 3) := by decide +kernel
theorem dX11_power_14 : decode cX11_power 14 = .ok (.getfield 138, 3) := by decide +kernel
theorem dX11_power_17 : decode cX11_power 17 = .ok (.invokevirtual 355, 3) := by decide +kernel
theorem dX11_power_20 : decode cX11_power 20 = .ok (.ireturn, 1) := by decide +kernel
theorem dX11_sameAs_0 : decode cX11_sameAs 0 = .ok (.aload_n 0, 1) := by decide +kernel
theorem dX11_sameAs_1 : decode cX11_sameAs 1 = .ok (.iload_n 1, 1) := by decide +kernel
theorem dX11_sameAs_2 : decode cX11_sameAs 2 = .ok (.invokevirtual 515, 3) := by decide +kernel
theorem dX11_sameAs_5 : decode cX11_sameAs 5 = .ok (.aload_n 0, 1) := by decide +kernel
theorem dX11_sameAs_6 : decode cX11_sameAs 6 = .ok (.iload_n 2, 1) := by decide +kernel
theorem dX11_sameAs_7 : decode cX11_sameAs 7 = .ok (.invokevirtual 526, 3) := by decide +kernel
theorem dX11_sameAs_10 : decode cX11_sameAs 10 = .ok (.aload_n 0, 1) := by decide +kernel
theorem dX11_sameAs_11 : decode cX11_sameAs 11 = .ok (.getfield 85, 3) := by decide +kernel
theorem dX11_sameAs_14 : decode cX11_sameAs 14 = .ok (.iload_n 1, 1) := by decide +kernel
theorem dX11_sameAs_15 : decode cX11_sameAs 15 = .ok (.iload_n 2, 1) := by decide +kernel
theorem dX11_sameAs_16 : decode cX11_sameAs 16 = .ok (.invokevirtual 529, 3) := by decide +kernel
theorem dX11_sameAs_19 : decode cX11_sameAs 19 = .ok (.istore_n 3, 1) := by decide +kernel
theorem dX11_sameAs_20 : decode cX11_sameAs 20 = .ok (.iconst 0, 1) := by decide +kernel
theorem dX11_sameAs_21 : decode cX11_sameAs 21 = .ok (.istore 4, 2) := by decide +kernel
theorem dX11_sameAs_23 : decode cX11_sameAs 23 = .ok (.iconst 0, 1) := by decide +kernel
theorem dX11_sameAs_24 : decode cX11_sameAs 24 = .ok (.istore 5, 2) := by decide +kernel
theorem dX11_sameAs_26 : decode cX11_sameAs 26 = .ok (.iload 5, 2) := by decide +kernel
theorem dX11_sameAs_28 : decode cX11_sameAs 28 = .ok (.aload_n 0, 1) := by decide +kernel
theorem dX11_sameAs_29 : decode cX11_sameAs 29 = .ok (.getfield 85, 3) := by decide +kernel
theorem dX11_sameAs_32 : decode cX11_sameAs 32 = .ok (.getfield 128, 3) := by decide +kernel
theorem dX11_sameAs_35 : decode cX11_sameAs 35 = .ok (.if_icmp .ge 26, 3) := by decide +kernel
theorem dX11_sameAs_38 : decode cX11_sameAs 38 = .ok (.aload_n 0, 1) := by decide +kernel
theorem dX11_sameAs_39 : decode cX11_sameAs 39 = .ok (.getfield 85, 3) := by decide +kernel
theorem dX11_sameAs_42 : decode cX11_sameAs 42 = .ok (.iload 5, 2) := by decide +kernel
theorem dX11_sameAs_44 : decode cX11_sameAs 44 = .ok (.iload_n 2, 1) := by decide +kernel
theorem dX11_sameAs_45 : decode cX11_sameAs 45 = .ok (.invokevirtual 529, 3) := by decide +kernel
theorem dX11_sameAs_48 : decode cX11_sameAs 48 = .ok (.iload_n 3, 1) := by decide +kernel
theorem dX11_sameAs_49 : decode cX11_sameAs 49 = .ok (.if_icmp .ne 6, 3) := by decide +kernel
theorem dX11_sameAs_52 : decode cX11_sameAs 52 = .ok (.iinc 4 1, 3) := by decide +kernel
theorem dX11_sameAs_55 : decode cX11_sameAs 55 = .ok (.iinc 5 1, 3) := by decide +kernel
theorem dX11_sameAs_58 : decode cX11_sameAs 58 = .ok (.goto (-32), 3) := by decide +kernel
theorem dX11_sameAs_61 : decode cX11_sameAs 61 = .ok (.iload 4, 2) := by decide +kernel
theorem dX11_sameAs_63 : decode cX11_sameAs 63 = .ok (.ireturn, 1) := by decide +kernel
theorem dX11_seedFor_0 : decode cX11_seedFor 0 = .ok (.aload_n 0, 1) := by decide +kernel
theorem dX11_seedFor_1 : decode cX11_seedFor 1 = .ok (.iload_n 1, 1) := by decide +kernel
theorem dX11_seedFor_2 : decode cX11_seedFor 2 = .ok (.invokevirtual 200, 3) := by decide +kernel
theorem dX11_seedFor_5 : decode cX11_seedFor 5 = .ok (.aload_n 0, 1) := by decide +kernel
theorem dX11_seedFor_6 : decode cX11_seedFor 6 = .ok (.getfield 62, 3) := by decide +kernel
theorem dX11_seedFor_9 : decode cX11_seedFor 9 = .ok (.aload_n 0, 1) := by decide +kernel
theorem dX11_seedFor_10 : decode cX11_seedFor 10 = .ok (.getfield 28, 3) := by decide +kernel
theorem dX11_seedFor_13 : decode cX11_seedFor 13 = .ok (.getfield 264, 3) := by decide +kernel
theorem dX11_seedFor_16 : decode cX11_seedFor 16 = .ok (.iload_n 1, 1) := by decide +kernel
theorem dX11_seedFor_17 : decode cX11_seedFor 17 = .ok (.iaload, 1) := by decide +kernel
theorem dX11_seedFor_18 : decode cX11_seedFor 18 = .ok (.aload_n 0, 1) := by decide +kernel
theorem dX11_seedFor_19 : decode cX11_seedFor 19 = .ok (.getfield 28, 3) := by decide +kernel
theorem dX11_seedFor_22 : decode cX11_seedFor 22 = .ok (.getfield 358, 3) := by decide +kernel
theorem dX11_seedFor_25 : decode cX11_seedFor 25 = .ok (.iload_n 1, 1) := by decide +kernel
theorem dX11_seedFor_26 : decode cX11_seedFor 26 = .ok (.iaload, 1) := by decide +kernel
theorem dX11_seedFor_27 : decode cX11_seedFor 27 = .ok (.aload_n 0, 1) := by decide +kernel
theorem dX11_seedFor_28 : decode cX11_seedFor 28 = .ok (.getfield 10, 3) := by decide +kernel
theorem dX11_seedFor_31 : decode cX11_seedFor 31 = .ok (.getfield 138, 3) := by decide +kernel
theorem dX11_seedFor_34 : decode cX11_seedFor 34 = .ok (.invokevirtual 374, 3) := by decide +kernel
theorem dX11_seedFor_37 : decode cX11_seedFor 37 = .ok (.istore_n 2, 1) := by decide +kernel
theorem dX11_seedFor_38 : decode cX11_seedFor 38 = .ok (.iload_n 2, 1) := by decide +kernel
theorem dX11_seedFor_39 : decode cX11_seedFor 39 = .ok (.ifCond .ge 11, 3) := by decide +kernel
theorem dX11_seedFor_42 : decode cX11_seedFor 42 = .ok (.new 310, 3) := by decide +kernel
theorem dX11_seedFor_45 : decode cX11_seedFor 45 = .ok (.dup, 1) := by decide +kernel
theorem dX11_seedFor_46 : decode cX11_seedFor 46 = .ok (.invokespecial 312, 3) := by decide +kernel
theorem dX11_seedFor_49 : decode cX11_seedFor 49 = .ok (.athrow, 1) := by decide +kernel
theorem dX11_seedFor_50 : decode cX11_seedFor 50 = .ok (.iload_n 2, 1) := by decide +kernel
theorem dX11_seedFor_51 : decode cX11_seedFor 51 = .ok (.ireturn, 1) := by decide +kernel
theorem dX11_seen_0 : decode cX11_seen 0 = .ok (.aload_n 0, 1) := by decide +kernel
theorem dX11_seen_1 : decode cX11_seen 1 = .ok (.iload_n 1, 1) := by decide +kernel
theorem dX11_seen_2 : decode cX11_seen 2 = .ok (.invokevirtual 200, 3) := by decide +kernel
theorem dX11_seen_5 : decode cX11_seen 5 = .ok (.iload_n 2, 1) := by decide +kernel
theorem dX11_seen_6 : decode cX11_seen 6 = .ok (.ifCond .lt 14, 3) := by decide +kernel
theorem dX11_seen_9 : decode cX11_seen 9 = .ok (.iload_n 2, 1) := by decide +kernel
theorem dX11_seen_10 : decode cX11_seen 10 = .ok (.aload_n 0, 1) := by decide +kernel
theorem dX11_seen_11 : decode cX11_seen 11 = .ok (.getfield 10, 3) := by decide +kernel
theorem dX11_seen_14 : decode cX11_seen 14 = .ok (.getfield 453, 3) := by decide +kernel
theorem dX11_seen_17 : decode cX11_seen 17 = .ok (.if_icmp .lt 11, 3) := by decide +kernel
theorem dX11_seen_20 : decode cX11_seen 20 = .ok (.new 100, 3) := by decide +kernel
theorem dX11_seen_23 : decode cX11_seen 23 = .ok (.dup, 1) := by decide +kernel
theorem dX11_seen_24 : decode cX11_seen 24 = .ok (.invokespecial 102, 3) := by decide +kernel
theorem dX11_seen_27 : decode cX11_seen 27 = .ok (.athrow, 1) := by decide +kernel
theorem dX11_seen_28 : decode cX11_seen 28 = .ok (.aload_n 0, 1) := by decide +kernel
theorem dX11_seen_29 : decode cX11_seen 29 = .ok (.getfield 71, 3) := by decide +kernel
theorem dX11_seen_32 : decode cX11_seen 32 = .ok (.iload_n 1, 1) := by decide +kernel
theorem dX11_seen_33 : decode cX11_seen 33 = .ok (.iload_n 2, 1) := by decide +kernel
theorem dX11_seen_34 : decode cX11_seen 34 = .ok (.invokevirtual 462, 3) := by decide +kernel
theorem dX11_seen_37 : decode cX11_seen 37 = .ok (.ireturn, 1) := by decide +kernel
theorem dX11_setTime_0 : decode cX11_setTime 0 = .ok (.aload_n 0, 1) := by decide +kernel
theorem dX11_setTime_1 : decode cX11_setTime 1 = .ok (.iload_n 1, 1) := by decide +kernel
theorem dX11_setTime_2 : decode cX11_setTime 2 = .ok (.invokevirtual 200, 3) := by decide +kernel
theorem dX11_setTime_5 : decode cX11_setTime 5 = .ok (.iload_n 2, 1) := by decide +kernel
theorem dX11_setTime_6 : decode cX11_setTime 6 = .ok (.iconst 1, 1) := by decide +kernel
theorem dX11_setTime_7 : decode cX11_setTime 7 = .ok (.bipush 99, 2) := by decide +kernel
theorem dX11_setTime_9 : decode cX11_setTime 9 = .ok (.invokestatic 361, 3) := by decide +kernel
theorem dX11_setTime_12 : decode cX11_setTime 12 = .ok (.aload_n 0, 1) := by decide +kernel
theorem dX11_setTime_13 : decode cX11_setTime 13 = .ok (.getfield 28, 3) := by decide +kernel
theorem dX11_setTime_16 : decode cX11_setTime 16 = .ok (.getfield 468, 3) := by decide +kernel
theorem dX11_setTime_19 : decode cX11_setTime 19 = .ok (.iload_n 1, 1) := by decide +kernel
theorem dX11_setTime_20 : decode cX11_setTime 20 = .ok (.iaload, 1) := by decide +kernel
theorem dX11_setTime_21 : decode cX11_setTime 21 = .ok (.istore_n 3, 1) := by decide +kernel
theorem dX11_setTime_22 : decode cX11_setTime 22 = .ok (.aload_n 0, 1) := by decide +kernel
theorem dX11_setTime_23 : decode cX11_setTime 23 = .ok (.getfield 28, 3) := by decide +kernel
theorem dX11_setTime_26 : decode cX11_setTime 26 = .ok (.getfield 468, 3) := by decide +kernel
theorem dX11_setTime_29 : decode cX11_setTime 29 = .ok (.iload_n 1, 1) := by decide +kernel
theorem dX11_setTime_30 : decode cX11_setTime 30 = .ok (.iload_n 2, 1) := by decide +kernel
theorem dX11_setTime_31 : decode cX11_setTime 31 = .ok (.iastore, 1) := by decide +kernel
theorem dX11_setTime_32 : decode cX11_setTime 32 = .ok (.iload_n 3, 1) := by decide +kernel
theorem dX11_setTime_33 : decode cX11_setTime 33 = .ok (.ireturn, 1) := by decide +kernel
theorem dX11_shortWires_0 : decode cX11_shortWires 0 = .ok (.aload_n 0, 1) := by decide +kernel
theorem dX11_shortWires_1 : decode cX11_shortWires 1 = .ok (.iload_n 1, 1) := by decide +kernel
theorem dX11_shortWires_2 : decode cX11_shortWires 2 = .ok (.invokevirtual 515, 3) := by decide +kernel
theorem dX11_shortWires_5 : decode cX11_shortWires 5 = .ok (.aload_n 0, 1) := by decide +kernel
theorem dX11_shortWires_6 : decode cX11_shortWires 6 = .ok (.iload_n 2, 1) := by decide +kernel
theorem dX11_shortWires_7 : decode cX11_shortWires 7 = .ok (.invokevirtual 515, 3) := by decide +kernel
theorem dX11_shortWires_10 : decode cX11_shortWires 10 = .ok (.iload_n 1, 1) := by decide +kernel
theorem dX11_shortWires_11 : decode cX11_shortWires 11 = .ok (.iload_n 2, 1) := by decide +kernel
theorem dX11_shortWires_12 : decode cX11_shortWires 12 = .ok (.if_icmp .ne 11, 3) := by decide +kernel
theorem dX11_shortWires_15 : decode cX11_shortWires 15 = .ok (.new 114, 3) := by decide +kernel
theorem dX11_shortWires_18 : decode cX11_shortWires 18 = .ok (.dup, 1) := by decide +kernel
theorem dX11_shortWires_19 : decode cX11_shortWires 19 = .ok (.invokespecial 116, 3) := by decide +kernel
theorem dX11_shortWires_22 : decode cX11_shortWires 22 = .ok (.athrow, 1) := by decide +kernel
theorem dX11_shortWires_23 : decode cX11_shortWires 23 = .ok (.aload_n 0, 1) := by decide +kernel
theorem dX11_shortWires_24 : decode cX11_shortWires 24 = .ok (.getfield 85, 3) := by decide +kernel
theorem dX11_shortWires_27 : decode cX11_shortWires 27 = .ok (.iload_n 1, 1) := by decide +kernel
theorem dX11_shortWires_28 : decode cX11_shortWires 28 = .ok (.iload_n 2, 1) := by decide +kernel
theorem dX11_shortWires_29 : decode cX11_shortWires 29 = .ok (.invokevirtual 524, 3) := by decide +kernel
theorem dX11_shortWires_32 : decode cX11_shortWires 32 = .ok (.ireturn, 1) := by decide +kernel
theorem dX11_slow_0 : decode cX11_slow 0 = .ok (.aload_n 0, 1) := by decide +kernel
theorem dX11_slow_1 : decode cX11_slow 1 = .ok (.iload_n 1, 1) := by decide +kernel
theorem dX11_slow_2 : decode cX11_slow 2 = .ok (.invokevirtual 149, 3) := by decide +kernel
theorem dX11_slow_5 : decode cX11_slow 5 = .ok (.aload_n 0, 1) := by decide +kernel
theorem dX11_slow_6 : decode cX11_slow 6 = .ok (.invokevirtual 177, 3) := by decide +kernel
theorem dX11_slow_9 : decode cX11_slow 9 = .ok (.aload_n 0, 1) := by decide +kernel
theorem dX11_slow_10 : decode cX11_slow 10 = .ok (.getfield 21, 3) := by decide +kernel
theorem dX11_slow_13 : decode cX11_slow 13 = .ok (.getfield 238, 3) := by decide +kernel
theorem dX11_slow_16 : decode cX11_slow 16 = .ok (.bipush 8, 2) := by decide +kernel
theorem dX11_slow_18 : decode cX11_slow 18 = .ok (.if_icmp .lt 11, 3) := by decide +kernel
theorem dX11_slow_21 : decode cX11_slow 21 = .ok (.new 141, 3) := by decide +kernel
theorem dX11_slow_24 : decode cX11_slow 24 = .ok (.dup, 1) := by decide +kernel
theorem dX11_slow_25 : decode cX11_slow 25 = .ok (.invokespecial 143, 3) := by decide +kernel
theorem dX11_slow_28 : decode cX11_slow 28 = .ok (.athrow, 1) := by decide +kernel
theorem dX11_slow_29 : decode cX11_slow 29 = .ok (.aload_n 0, 1) := by decide +kernel
theorem dX11_slow_30 : decode cX11_slow 30 = .ok (.getfield 21, 3) := by decide +kernel
theorem dX11_slow_33 : decode cX11_slow 33 = .ok (.iload_n 1, 1) := by decide +kernel
theorem dX11_slow_34 : decode cX11_slow 34 = .ok (.iload_n 2, 1) := by decide +kernel
theorem dX11_slow_35 : decode cX11_slow 35 = .ok (.ifCond .eq 7, 3) := by decide +kernel
theorem dX11_slow_38 : decode cX11_slow 38 = .ok (.iconst 0, 1) := by decide +kernel
theorem dX11_slow_39 : decode cX11_slow 39 = .ok (.goto 4, 3) := by decide +kernel
theorem dX11_slow_42 : decode cX11_slow 42 = .ok (.iconst 1, 1) := by decide +kernel
theorem dX11_slow_43 : decode cX11_slow 43 = .ok (.invokevirtual 241, 3) := by decide +kernel
theorem dX11_slow_46 : decode cX11_slow 46 = .ok (.ireturn, 1) := by decide +kernel
theorem dX11_suspects_0 : decode cX11_suspects 0 = .ok (.aload_n 0, 1) := by decide +kernel
theorem dX11_suspects_1 : decode cX11_suspects 1 = .ok (.getfield 71, 3) := by decide +kernel
theorem dX11_suspects_4 : decode cX11_suspects 4 = .ok (.invokevirtual 465, 3) := by decide +kernel
theorem dX11_suspects_7 : decode cX11_suspects 7 = .ok (.ireturn, 1) := by decide +kernel
theorem dX11_tally_0 : decode cX11_tally 0 = .ok (.aload_n 0, 1) := by decide +kernel
theorem dX11_tally_1 : decode cX11_tally 1 = .ok (.iload_n 1, 1) := by decide +kernel
theorem dX11_tally_2 : decode cX11_tally 2 = .ok (.invokevirtual 319, 3) := by decide +kernel
theorem dX11_tally_5 : decode cX11_tally 5 = .ok (.aload_n 0, 1) := by decide +kernel
theorem dX11_tally_6 : decode cX11_tally 6 = .ok (.getfield 21, 3) := by decide +kernel
theorem dX11_tally_9 : decode cX11_tally 9 = .ok (.aload_n 0, 1) := by decide +kernel
theorem dX11_tally_10 : decode cX11_tally 10 = .ok (.getfield 21, 3) := by decide +kernel
theorem dX11_tally_13 : decode cX11_tally 13 = .ok (.getfield 222, 3) := by decide +kernel
theorem dX11_tally_16 : decode cX11_tally 16 = .ok (.iload_n 1, 1) := by decide +kernel
theorem dX11_tally_17 : decode cX11_tally 17 = .ok (.iaload, 1) := by decide +kernel
theorem dX11_tally_18 : decode cX11_tally 18 = .ok (.invokevirtual 450, 3) := by decide +kernel
theorem dX11_tally_21 : decode cX11_tally 21 = .ok (.ireturn, 1) := by decide +kernel
theorem dX11_testPoint_0 : decode cX11_testPoint 0 = .ok (.aload_n 0, 1) := by decide +kernel
theorem dX11_testPoint_1 : decode cX11_testPoint 1 = .ok (.iload_n 1, 1) := by decide +kernel
theorem dX11_testPoint_2 : decode cX11_testPoint 2 = .ok (.invokevirtual 149, 3) := by decide +kernel
theorem dX11_testPoint_5 : decode cX11_testPoint 5 = .ok (.aload_n 0, 1) := by decide +kernel
theorem dX11_testPoint_6 : decode cX11_testPoint 6 = .ok (.invokevirtual 177, 3) := by decide +kernel
theorem dX11_testPoint_9 : decode cX11_testPoint 9 = .ok (.aload_n 0, 1) := by decide +kernel
theorem dX11_testPoint_10 : decode cX11_testPoint 10 = .ok (.getfield 10, 3) := by decide +kernel
theorem dX11_testPoint_13 : decode cX11_testPoint 13 = .ok (.getfield 180, 3) := by decide +kernel
theorem dX11_testPoint_16 : decode cX11_testPoint 16 = .ok (.iload_n 1, 1) := by decide +kernel
theorem dX11_testPoint_17 : decode cX11_testPoint 17 = .ok (.iconst 1, 1) := by decide +kernel
theorem dX11_testPoint_18 : decode cX11_testPoint 18 = .ok (.bastore, 1) := by decide +kernel
theorem dX11_testPoint_19 : decode cX11_testPoint 19 = .ok (.aload_n 0, 1) := by decide +kernel
theorem dX11_testPoint_20 : decode cX11_testPoint 20 = .ok (.getfield 10, 3) := by decide +kernel
theorem dX11_testPoint_23 : decode cX11_testPoint 23 = .ok (.invokevirtual 183, 3) := by decide +kernel
theorem dX11_testPoint_26 : decode cX11_testPoint 26 = .ok (.aload_n 0, 1) := by decide +kernel
theorem dX11_testPoint_27 : decode cX11_testPoint 27 = .ok (.getfield 21, 3) := by decide +kernel
theorem dX11_testPoint_30 : decode cX11_testPoint 30 = .ok (.invokevirtual 186, 3) := by decide +kernel
theorem dX11_testPoint_33 : decode cX11_testPoint 33 = .ok (.aload_n 0, 1) := by decide +kernel
theorem dX11_testPoint_34 : decode cX11_testPoint 34 = .ok (.getfield 10, 3) := by decide +kernel
theorem dX11_testPoint_37 : decode cX11_testPoint 37 = .ok (.getfield 189, 3) := by decide +kernel
theorem dX11_testPoint_40 : decode cX11_testPoint 40 = .ok (.ireturn, 1) := by decide +kernel
theorem dX11_tie_0 : decode cX11_tie 0 = .ok (.aload_n 0, 1) := by decide +kernel
theorem dX11_tie_1 : decode cX11_tie 1 = .ok (.iload_n 1, 1) := by decide +kernel
theorem dX11_tie_2 : decode cX11_tie 2 = .ok (.invokevirtual 319, 3) := by decide +kernel
theorem dX11_tie_5 : decode cX11_tie 5 = .ok (.aload_n 0, 1) := by decide +kernel
theorem dX11_tie_6 : decode cX11_tie 6 = .ok (.getfield 21, 3) := by decide +kernel
theorem dX11_tie_9 : decode cX11_tie 9 = .ok (.getfield 219, 3) := by decide +kernel
theorem dX11_tie_12 : decode cX11_tie 12 = .ok (.iload_n 1, 1) := by decide +kernel
theorem dX11_tie_13 : decode cX11_tie 13 = .ok (.iaload, 1) := by decide +kernel
theorem dX11_tie_14 : decode cX11_tie 14 = .ok (.ifCond .lt 11, 3) := by decide +kernel
theorem dX11_tie_17 : decode cX11_tie 17 = .ok (.new 114, 3) := by decide +kernel
theorem dX11_tie_20 : decode cX11_tie 20 = .ok (.dup, 1) := by decide +kernel
theorem dX11_tie_21 : decode cX11_tie 21 = .ok (.invokespecial 116, 3) := by decide +kernel
theorem dX11_tie_24 : decode cX11_tie 24 = .ok (.athrow, 1) := by decide +kernel
theorem dX11_tie_25 : decode cX11_tie 25 = .ok (.aload_n 0, 1) := by decide +kernel
theorem dX11_tie_26 : decode cX11_tie 26 = .ok (.getfield 21, 3) := by decide +kernel
theorem dX11_tie_29 : decode cX11_tie 29 = .ok (.getfield 216, 3) := by decide +kernel
theorem dX11_tie_32 : decode cX11_tie 32 = .ok (.iload_n 1, 1) := by decide +kernel
theorem dX11_tie_33 : decode cX11_tie 33 = .ok (.iaload, 1) := by decide +kernel
theorem dX11_tie_34 : decode cX11_tie 34 = .ok (.istore_n 2, 1) := by decide +kernel
theorem dX11_tie_35 : decode cX11_tie 35 = .ok (.aload_n 0, 1) := by decide +kernel
theorem dX11_tie_36 : decode cX11_tie 36 = .ok (.getfield 10, 3) := by decide +kernel
theorem dX11_tie_39 : decode cX11_tie 39 = .ok (.getfield 322, 3) := by decide +kernel
theorem dX11_tie_42 : decode cX11_tie 42 = .ok (.iload_n 2, 1) := by decide +kernel
theorem dX11_tie_43 : decode cX11_tie 43 = .ok (.iaload, 1) := by decide +kernel
theorem dX11_tie_44 : decode cX11_tie 44 = .ok (.iconst 2, 1) := by decide +kernel
theorem dX11_tie_45 : decode cX11_tie 45 = .ok (.if_icmp .ne 14, 3) := by decide +kernel
theorem dX11_tie_48 : decode cX11_tie 48 = .ok (.aload_n 0, 1) := by decide +kernel
theorem dX11_tie_49 : decode cX11_tie 49 = .ok (.getfield 37, 3) := by decide +kernel
theorem dX11_tie_52 : decode cX11_tie 52 = .ok (.iload_n 1, 1) := by decide +kernel
theorem dX11_tie_53 : decode cX11_tie 53 = .ok (.invokevirtual 306, 3) := by decide +kernel
theorem dX11_tie_56 : decode cX11_tie 56 = .ok (.ifCond .lt 11, 3) := by decide +kernel
theorem dX11_tie_59 : decode cX11_tie 59 = .ok (.new 125, 3) := by decide +kernel
theorem dX11_tie_62 : decode cX11_tie 62 = .ok (.dup, 1) := by decide +kernel
theorem dX11_tie_63 : decode cX11_tie 63 = .ok (.invokespecial 127, 3) := by decide +kernel
theorem dX11_tie_66 : decode cX11_tie 66 = .ok (.athrow, 1) := by decide +kernel
theorem dX11_tie_67 : decode cX11_tie 67 = .ok (.aload_n 0, 1) := by decide +kernel
theorem dX11_tie_68 : decode cX11_tie 68 = .ok (.getfield 10, 3) := by decide +kernel
theorem dX11_tie_71 : decode cX11_tie 71 = .ok (.getfield 322, 3) := by decide +kernel
theorem dX11_tie_74 : decode cX11_tie 74 = .ok (.iload_n 2, 1) := by decide +kernel
theorem dX11_tie_75 : decode cX11_tie 75 = .ok (.aload_n 0, 1) := by decide +kernel
theorem dX11_tie_76 : decode cX11_tie 76 = .ok (.getfield 21, 3) := by decide +kernel
theorem dX11_tie_79 : decode cX11_tie 79 = .ok (.getfield 325, 3) := by decide +kernel
theorem dX11_tie_82 : decode cX11_tie 82 = .ok (.iload_n 1, 1) := by decide +kernel
theorem dX11_tie_83 : decode cX11_tie 83 = .ok (.iaload, 1) := by decide +kernel
theorem dX11_tie_84 : decode cX11_tie 84 = .ok (.iastore, 1) := by decide +kernel
theorem dX11_tie_85 : decode cX11_tie 85 = .ok (.aload_n 0, 1) := by decide +kernel
theorem dX11_tie_86 : decode cX11_tie 86 = .ok (.getfield 10, 3) := by decide +kernel
theorem dX11_tie_89 : decode cX11_tie 89 = .ok (.dup, 1) := by decide +kernel
theorem dX11_tie_90 : decode cX11_tie 90 = .ok (.getfield 328, 3) := by decide +kernel
theorem dX11_tie_93 : decode cX11_tie 93 = .ok (.iconst 1, 1) := by decide +kernel
theorem dX11_tie_94 : decode cX11_tie 94 = .ok (.iadd, 1) := by decide +kernel
theorem dX11_tie_95 : decode cX11_tie 95 = .ok (.putfield 328, 3) := by decide +kernel
theorem dX11_tie_98 : decode cX11_tie 98 = .ok (.aload_n 0, 1) := by decide +kernel
theorem dX11_tie_99 : decode cX11_tie 99 = .ok (.getfield 21, 3) := by decide +kernel
theorem dX11_tie_102 : decode cX11_tie 102 = .ok (.invokevirtual 186, 3) := by decide +kernel
theorem dX11_tie_105 : decode cX11_tie 105 = .ok (.aload_n 0, 1) := by decide +kernel
theorem dX11_tie_106 : decode cX11_tie 106 = .ok (.getfield 10, 3) := by decide +kernel
theorem dX11_tie_109 : decode cX11_tie 109 = .ok (.getfield 328, 3) := by decide +kernel
theorem dX11_tie_112 : decode cX11_tie 112 = .ok (.ireturn, 1) := by decide +kernel
theorem dX11_value_0 : decode cX11_value 0 = .ok (.aload_n 0, 1) := by decide +kernel
theorem dX11_value_1 : decode cX11_value 1 = .ok (.iload_n 1, 1) := by decide +kernel
theorem dX11_value_2 : decode cX11_value 2 = .ok (.invokevirtual 200, 3) := by decide +kernel
theorem dX11_value_5 : decode cX11_value 5 = .ok (.aload_n 0, 1) := by decide +kernel
theorem dX11_value_6 : decode cX11_value 6 = .ok (.iload_n 2, 1) := by decide +kernel
theorem dX11_value_7 : decode cX11_value 7 = .ok (.invokevirtual 149, 3) := by decide +kernel
theorem dX11_value_10 : decode cX11_value 10 = .ok (.aload_n 0, 1) := by decide +kernel
theorem dX11_value_11 : decode cX11_value 11 = .ok (.getfield 46, 3) := by decide +kernel
theorem dX11_value_14 : decode cX11_value 14 = .ok (.iload_n 1, 1) := by decide +kernel
theorem dX11_value_15 : decode cX11_value 15 = .ok (.invokevirtual 203, 3) := by decide +kernel
theorem dX11_value_18 : decode cX11_value 18 = .ok (.aload_n 0, 1) := by decide +kernel
theorem dX11_value_19 : decode cX11_value 19 = .ok (.getfield 46, 3) := by decide +kernel
theorem dX11_value_22 : decode cX11_value 22 = .ok (.getfield 206, 3) := by decide +kernel
theorem dX11_value_25 : decode cX11_value 25 = .ok (.iload_n 2, 1) := by decide +kernel
theorem dX11_value_26 : decode cX11_value 26 = .ok (.iaload, 1) := by decide +kernel
theorem dX11_value_27 : decode cX11_value 27 = .ok (.ireturn, 1) := by decide +kernel
theorem dX11_ways_0 : decode cX11_ways 0 = .ok (.aload_n 0, 1) := by decide +kernel
theorem dX11_ways_1 : decode cX11_ways 1 = .ok (.iload_n 1, 1) := by decide +kernel
theorem dX11_ways_2 : decode cX11_ways 2 = .ok (.invokevirtual 319, 3) := by decide +kernel
theorem dX11_ways_5 : decode cX11_ways 5 = .ok (.aload_n 0, 1) := by decide +kernel
theorem dX11_ways_6 : decode cX11_ways 6 = .ok (.getfield 37, 3) := by decide +kernel
theorem dX11_ways_9 : decode cX11_ways 9 = .ok (.iload_n 1, 1) := by decide +kernel
theorem dX11_ways_10 : decode cX11_ways 10 = .ok (.invokevirtual 420, 3) := by decide +kernel
theorem dX11_ways_13 : decode cX11_ways 13 = .ok (.ireturn, 1) := by decide +kernel
theorem dX11_weight_0 : decode cX11_weight 0 = .ok (.aload_n 0, 1) := by decide +kernel
theorem dX11_weight_1 : decode cX11_weight 1 = .ok (.iload_n 1, 1) := by decide +kernel
theorem dX11_weight_2 : decode cX11_weight 2 = .ok (.invokevirtual 149, 3) := by decide +kernel
theorem dX11_weight_5 : decode cX11_weight 5 = .ok (.aload_n 0, 1) := by decide +kernel
theorem dX11_weight_6 : decode cX11_weight 6 = .ok (.invokevirtual 177, 3) := by decide +kernel
theorem dX11_weight_9 : decode cX11_weight 9 = .ok (.aload_n 0, 1) := by decide +kernel
theorem dX11_weight_10 : decode cX11_weight 10 = .ok (.getfield 37, 3) := by decide +kernel
theorem dX11_weight_13 : decode cX11_weight 13 = .ok (.iload_n 1, 1) := by decide +kernel
theorem dX11_weight_14 : decode cX11_weight 14 = .ok (.invokevirtual 417, 3) := by decide +kernel
theorem dX11_weight_17 : decode cX11_weight 17 = .ok (.ireturn, 1) := by decide +kernel
theorem dX11_wrong_0 : decode cX11_wrong 0 = .ok (.aload_n 0, 1) := by decide +kernel
theorem dX11_wrong_1 : decode cX11_wrong 1 = .ok (.iload_n 1, 1) := by decide +kernel
theorem dX11_wrong_2 : decode cX11_wrong 2 = .ok (.invokevirtual 319, 3) := by decide +kernel
theorem dX11_wrong_5 : decode cX11_wrong 5 = .ok (.aload_n 0, 1) := by decide +kernel
theorem dX11_wrong_6 : decode cX11_wrong 6 = .ok (.getfield 71, 3) := by decide +kernel
theorem dX11_wrong_9 : decode cX11_wrong 9 = .ok (.invokevirtual 438, 3) := by decide +kernel
theorem dX11_wrong_12 : decode cX11_wrong 12 = .ok (.aload_n 0, 1) := by decide +kernel
theorem dX11_wrong_13 : decode cX11_wrong 13 = .ok (.getfield 71, 3) := by decide +kernel
theorem dX11_wrong_16 : decode cX11_wrong 16 = .ok (.getfield 444, 3) := by decide +kernel
theorem dX11_wrong_19 : decode cX11_wrong 19 = .ok (.aload_n 0, 1) := by decide +kernel
theorem dX11_wrong_20 : decode cX11_wrong 20 = .ok (.getfield 21, 3) := by decide +kernel
theorem dX11_wrong_23 : decode cX11_wrong 23 = .ok (.getfield 222, 3) := by decide +kernel
theorem dX11_wrong_26 : decode cX11_wrong 26 = .ok (.iload_n 1, 1) := by decide +kernel
theorem dX11_wrong_27 : decode cX11_wrong 27 = .ok (.iaload, 1) := by decide +kernel
theorem dX11_wrong_28 : decode cX11_wrong 28 = .ok (.iaload, 1) := by decide +kernel
theorem dX11_wrong_29 : decode cX11_wrong 29 = .ok (.ireturn, 1) := by decide +kernel
theorem dX1_suspectedPlaces_0 : decode cX1_suspectedPlaces 0 = .ok (.aload_n 0, 1) := by decide +kernel
theorem dX1_suspectedPlaces_1 : decode cX1_suspectedPlaces 1 = .ok (.getfield 31, 3) := by decide +kernel
theorem dX1_suspectedPlaces_4 : decode cX1_suspectedPlaces 4 = .ok (.ifCond .ge 5, 3) := by decide +kernel
theorem dX1_suspectedPlaces_7 : decode cX1_suspectedPlaces 7 = .ok (.iconst 0, 1) := by decide +kernel
theorem dX1_suspectedPlaces_8 : decode cX1_suspectedPlaces 8 = .ok (.ireturn, 1) := by decide +kernel
theorem dX1_suspectedPlaces_9 : decode cX1_suspectedPlaces 9 = .ok (.aload_n 0, 1) := by decide +kernel
theorem dX1_suspectedPlaces_10 : decode cX1_suspectedPlaces 10 = .ok (.aload_n 0, 1) := by decide +kernel
theorem dX1_suspectedPlaces_11 : decode cX1_suspectedPlaces 11 = .ok (.getfield 31, 3) := by decide +kernel
theorem dX1_suspectedPlaces_14 : decode cX1_suspectedPlaces 14 = .ok (.aload_n 0, 1) := by decide +kernel
theorem dX1_suspectedPlaces_15 : decode cX1_suspectedPlaces 15 = .ok (.getfield 134, 3) := by decide +kernel
theorem dX1_suspectedPlaces_18 : decode cX1_suspectedPlaces 18 = .ok (.invokevirtual 137, 3) := by decide +kernel
theorem dX1_suspectedPlaces_21 : decode cX1_suspectedPlaces 21 = .ok (.iconst 0, 1) := by decide +kernel
theorem dX1_suspectedPlaces_22 : decode cX1_suspectedPlaces 22 = .ok (.istore_n 1, 1) := by decide +kernel
theorem dX1_suspectedPlaces_23 : decode cX1_suspectedPlaces 23 = .ok (.iload_n 1, 1) := by decide +kernel
theorem dX1_suspectedPlaces_24 : decode cX1_suspectedPlaces 24 = .ok (.aload_n 0, 1) := by decide +kernel
theorem dX1_suspectedPlaces_25 : decode cX1_suspectedPlaces 25 = .ok (.getfield 35, 3) := by decide +kernel
theorem dX1_suspectedPlaces_28 : decode cX1_suspectedPlaces 28 = .ok (.getfield 108, 3) := by decide +kernel
theorem dX1_suspectedPlaces_31 : decode cX1_suspectedPlaces 31 = .ok (.if_icmp .ge 49, 3) := by decide +kernel
theorem dX1_suspectedPlaces_34 : decode cX1_suspectedPlaces 34 = .ok (.aload_n 0, 1) := by decide +kernel
theorem dX1_suspectedPlaces_35 : decode cX1_suspectedPlaces 35 = .ok (.getfield 25, 3) := by decide +kernel
theorem dX1_suspectedPlaces_38 : decode cX1_suspectedPlaces 38 = .ok (.iload_n 1, 1) := by decide +kernel
theorem dX1_suspectedPlaces_39 : decode cX1_suspectedPlaces 39 = .ok (.aload_n 0, 1) := by decide +kernel
theorem dX1_suspectedPlaces_40 : decode cX1_suspectedPlaces 40 = .ok (.iload_n 1, 1) := by decide +kernel
theorem dX1_suspectedPlaces_41 : decode cX1_suspectedPlaces 41 = .ok (.aload_n 0, 1) := by decide +kernel
theorem dX1_suspectedPlaces_42 : decode cX1_suspectedPlaces 42 = .ok (.getfield 31, 3) := by decide +kernel
theorem dX1_suspectedPlaces_45 : decode cX1_suspectedPlaces 45 = .ok (.aload_n 0, 1) := by decide +kernel
theorem dX1_suspectedPlaces_46 : decode cX1_suspectedPlaces 46 = .ok (.getfield 134, 3) := by decide +kernel
theorem dX1_suspectedPlaces_49 : decode cX1_suspectedPlaces 49 = .ok (.iconst 0, 1) := by decide +kernel
theorem dX1_suspectedPlaces_50 : decode cX1_suspectedPlaces 50 = .ok (.invokevirtual 140, 3) := by decide +kernel
theorem dX1_suspectedPlaces_53 : decode cX1_suspectedPlaces 53 = .ok (.lastore, 1) := by decide +kernel
theorem dX1_suspectedPlaces_54 : decode cX1_suspectedPlaces 54 = .ok (.aload_n 0, 1) := by decide +kernel
theorem dX1_suspectedPlaces_55 : decode cX1_suspectedPlaces 55 = .ok (.getfield 28, 3) := by decide +kernel
theorem dX1_suspectedPlaces_58 : decode cX1_suspectedPlaces 58 = .ok (.iload_n 1, 1) := by decide +kernel
theorem dX1_suspectedPlaces_59 : decode cX1_suspectedPlaces 59 = .ok (.aload_n 0, 1) := by decide +kernel
theorem dX1_suspectedPlaces_60 : decode cX1_suspectedPlaces 60 = .ok (.iload_n 1, 1) := by decide +kernel
theorem dX1_suspectedPlaces_61 : decode cX1_suspectedPlaces 61 = .ok (.aload_n 0, 1) := by decide +kernel
theorem dX1_suspectedPlaces_62 : decode cX1_suspectedPlaces 62 = .ok (.getfield 31, 3) := by decide +kernel
theorem dX1_suspectedPlaces_65 : decode cX1_suspectedPlaces 65 = .ok (.aload_n 0, 1) := by decide +kernel
theorem dX1_suspectedPlaces_66 : decode cX1_suspectedPlaces 66 = .ok (.getfield 134, 3) := by decide +kernel
theorem dX1_suspectedPlaces_69 : decode cX1_suspectedPlaces 69 = .ok (.iconst 1, 1) := by decide +kernel
theorem dX1_suspectedPlaces_70 : decode cX1_suspectedPlaces 70 = .ok (.invokevirtual 140, 3) := by decide +kernel
theorem dX1_suspectedPlaces_73 : decode cX1_suspectedPlaces 73 = .ok (.lastore, 1) := by decide +kernel
theorem dX1_suspectedPlaces_74 : decode cX1_suspectedPlaces 74 = .ok (.iinc 1 1, 3) := by decide +kernel
theorem dX1_suspectedPlaces_77 : decode cX1_suspectedPlaces 77 = .ok (.goto (-54), 3) := by decide +kernel
theorem dX1_suspectedPlaces_80 : decode cX1_suspectedPlaces 80 = .ok (.iconst 0, 1) := by decide +kernel
theorem dX1_suspectedPlaces_81 : decode cX1_suspectedPlaces 81 = .ok (.istore_n 1, 1) := by decide +kernel
theorem dX1_suspectedPlaces_82 : decode cX1_suspectedPlaces 82 = .ok (.iconst 0, 1) := by decide +kernel
theorem dX1_suspectedPlaces_83 : decode cX1_suspectedPlaces 83 = .ok (.istore_n 2, 1) := by decide +kernel
theorem dX1_suspectedPlaces_84 : decode cX1_suspectedPlaces 84 = .ok (.iload_n 2, 1) := by decide +kernel
theorem dX1_suspectedPlaces_85 : decode cX1_suspectedPlaces 85 = .ok (.aload_n 0, 1) := by decide +kernel
theorem dX1_suspectedPlaces_86 : decode cX1_suspectedPlaces 86 = .ok (.getfield 35, 3) := by decide +kernel
theorem dX1_suspectedPlaces_89 : decode cX1_suspectedPlaces 89 = .ok (.getfield 108, 3) := by decide +kernel
theorem dX1_suspectedPlaces_92 : decode cX1_suspectedPlaces 92 = .ok (.if_icmp .ge 23, 3) := by decide +kernel
theorem dX1_suspectedPlaces_95 : decode cX1_suspectedPlaces 95 = .ok (.aload_n 0, 1) := by decide +kernel
theorem dX1_suspectedPlaces_96 : decode cX1_suspectedPlaces 96 = .ok (.iload_n 2, 1) := by decide +kernel
theorem dX1_suspectedPlaces_97 : decode cX1_suspectedPlaces 97 = .ok (.invokevirtual 144, 3) := by decide +kernel
theorem dX1_suspectedPlaces_100 : decode cX1_suspectedPlaces 100 = .ok (.ifCond .eq 9, 3) := by decide +kernel
theorem dX1_suspectedPlaces_103 : decode cX1_suspectedPlaces 103 = .ok (.iload_n 1, 1) := by decide +kernel
theorem dX1_suspectedPlaces_104 : decode cX1_suspectedPlaces 104 = .ok (.iconst 1, 1) := by decide +kernel
theorem dX1_suspectedPlaces_105 : decode cX1_suspectedPlaces 105 = .ok (.iload_n 2, 1) := by decide +kernel
theorem dX1_suspectedPlaces_106 : decode cX1_suspectedPlaces 106 = .ok (.ishl, 1) := by decide +kernel
theorem dX1_suspectedPlaces_107 : decode cX1_suspectedPlaces 107 = .ok (.ior, 1) := by decide +kernel
theorem dX1_suspectedPlaces_108 : decode cX1_suspectedPlaces 108 = .ok (.istore_n 1, 1) := by decide +kernel
theorem dX1_suspectedPlaces_109 : decode cX1_suspectedPlaces 109 = .ok (.iinc 2 1, 3) := by decide +kernel
theorem dX1_suspectedPlaces_112 : decode cX1_suspectedPlaces 112 = .ok (.goto (-28), 3) := by decide +kernel
theorem dX1_suspectedPlaces_115 : decode cX1_suspectedPlaces 115 = .ok (.iload_n 1, 1) := by decide +kernel
theorem dX1_suspectedPlaces_116 : decode cX1_suspectedPlaces 116 = .ok (.ireturn, 1) := by decide +kernel
theorem dX3_countClasses_0 : decode cX3_countClasses 0 = .ok (.iconst 0, 1) := by decide +kernel
theorem dX3_countClasses_1 : decode cX3_countClasses 1 = .ok (.istore_n 1, 1) := by decide +kernel
theorem dX3_countClasses_2 : decode cX3_countClasses 2 = .ok (.iconst 0, 1) := by decide +kernel
theorem dX3_countClasses_3 : decode cX3_countClasses 3 = .ok (.istore_n 2, 1) := by decide +kernel
theorem dX3_countClasses_4 : decode cX3_countClasses 4 = .ok (.iload_n 2, 1) := by decide +kernel
theorem dX3_countClasses_5 : decode cX3_countClasses 5 = .ok (.aload_n 0, 1) := by decide +kernel
theorem dX3_countClasses_6 : decode cX3_countClasses 6 = .ok (.getfield 73, 3) := by decide +kernel
theorem dX3_countClasses_9 : decode cX3_countClasses 9 = .ok (.if_icmp .ge 20, 3) := by decide +kernel
theorem dX3_countClasses_12 : decode cX3_countClasses 12 = .ok (.aload_n 0, 1) := by decide +kernel
theorem dX3_countClasses_13 : decode cX3_countClasses 13 = .ok (.iload_n 2, 1) := by decide +kernel
theorem dX3_countClasses_14 : decode cX3_countClasses 14 = .ok (.invokevirtual 89, 3) := by decide +kernel
theorem dX3_countClasses_17 : decode cX3_countClasses 17 = .ok (.ifCond .eq 6, 3) := by decide +kernel
theorem dX3_countClasses_20 : decode cX3_countClasses 20 = .ok (.iinc 1 1, 3) := by decide +kernel
theorem dX3_countClasses_23 : decode cX3_countClasses 23 = .ok (.iinc 2 1, 3) := by decide +kernel
theorem dX3_countClasses_26 : decode cX3_countClasses 26 = .ok (.goto (-22), 3) := by decide +kernel
theorem dX3_countClasses_29 : decode cX3_countClasses 29 = .ok (.iload_n 1, 1) := by decide +kernel
theorem dX3_countClasses_30 : decode cX3_countClasses 30 = .ok (.ireturn, 1) := by decide +kernel
theorem dX6_allSources_0 : decode cX6_allSources 0 = .ok (.iconst 1, 1) := by decide +kernel
theorem dX6_allSources_1 : decode cX6_allSources 1 = .ok (.aload_n 0, 1) := by decide +kernel
theorem dX6_allSources_2 : decode cX6_allSources 2 = .ok (.getfield 72, 3) := by decide +kernel
theorem dX6_allSources_5 : decode cX6_allSources 5 = .ok (.ishl, 1) := by decide +kernel
theorem dX6_allSources_6 : decode cX6_allSources 6 = .ok (.iconst 1, 1) := by decide +kernel
theorem dX6_allSources_7 : decode cX6_allSources 7 = .ok (.isub, 1) := by decide +kernel
theorem dX6_allSources_8 : decode cX6_allSources 8 = .ok (.ireturn, 1) := by decide +kernel
theorem dX6_canClose_0 : decode cX6_canClose 0 = .ok (.aload_n 0, 1) := by decide +kernel
theorem dX6_canClose_1 : decode cX6_canClose 1 = .ok (.getfield 75, 3) := by decide +kernel
theorem dX6_canClose_4 : decode cX6_canClose 4 = .ok (.ifCond .le 7, 3) := by decide +kernel
theorem dX6_canClose_7 : decode cX6_canClose 7 = .ok (.iconst 1, 1) := by decide +kernel
theorem dX6_canClose_8 : decode cX6_canClose 8 = .ok (.goto 4, 3) := by decide +kernel
theorem dX6_canClose_11 : decode cX6_canClose 11 = .ok (.iconst 0, 1) := by decide +kernel
theorem dX6_canClose_12 : decode cX6_canClose 12 = .ok (.istore_n 1, 1) := by decide +kernel
theorem dX6_canClose_13 : decode cX6_canClose 13 = .ok (.iconst 0, 1) := by decide +kernel
theorem dX6_canClose_14 : decode cX6_canClose 14 = .ok (.istore_n 2, 1) := by decide +kernel
theorem dX6_canClose_15 : decode cX6_canClose 15 = .ok (.iload_n 2, 1) := by decide +kernel
theorem dX6_canClose_16 : decode cX6_canClose 16 = .ok (.aload_n 0, 1) := by decide +kernel
theorem dX6_canClose_17 : decode cX6_canClose 17 = .ok (.getfield 68, 3) := by decide +kernel
theorem dX6_canClose_20 : decode cX6_canClose 20 = .ok (.if_icmp .ge 40, 3) := by decide +kernel
theorem dX6_canClose_23 : decode cX6_canClose 23 = .ok (.aload_n 0, 1) := by decide +kernel
theorem dX6_canClose_24 : decode cX6_canClose 24 = .ok (.getfield 9, 3) := by decide +kernel
theorem dX6_canClose_27 : decode cX6_canClose 27 = .ok (.iload_n 2, 1) := by decide +kernel
theorem dX6_canClose_28 : decode cX6_canClose 28 = .ok (.caload, 1) := by decide +kernel
theorem dX6_canClose_29 : decode cX6_canClose 29 = .ok (.bipush 102, 2) := by decide +kernel
theorem dX6_canClose_31 : decode cX6_canClose 31 = .ok (.if_icmp .ne 14, 3) := by decide +kernel
theorem dX6_canClose_34 : decode cX6_canClose 34 = .ok (.aload_n 0, 1) := by decide +kernel
theorem dX6_canClose_35 : decode cX6_canClose 35 = .ok (.getfield 22, 3) := by decide +kernel
theorem dX6_canClose_38 : decode cX6_canClose 38 = .ok (.iload_n 2, 1) := by decide +kernel
theorem dX6_canClose_39 : decode cX6_canClose 39 = .ok (.iaload, 1) := by decide +kernel
theorem dX6_canClose_40 : decode cX6_canClose 40 = .ok (.ifCond .ge 5, 3) := by decide +kernel
theorem dX6_canClose_43 : decode cX6_canClose 43 = .ok (.iconst 0, 1) := by decide +kernel
theorem dX6_canClose_44 : decode cX6_canClose 44 = .ok (.ireturn, 1) := by decide +kernel
theorem dX6_canClose_45 : decode cX6_canClose 45 = .ok (.iload_n 1, 1) := by decide +kernel
theorem dX6_canClose_46 : decode cX6_canClose 46 = .ok (.aload_n 0, 1) := by decide +kernel
theorem dX6_canClose_47 : decode cX6_canClose 47 = .ok (.getfield 44, 3) := by decide +kernel
theorem dX6_canClose_50 : decode cX6_canClose 50 = .ok (.iload_n 2, 1) := by decide +kernel
theorem dX6_canClose_51 : decode cX6_canClose 51 = .ok (.baload, 1) := by decide +kernel
theorem dX6_canClose_52 : decode cX6_canClose 52 = .ok (.ior, 1) := by decide +kernel
theorem dX6_canClose_53 : decode cX6_canClose 53 = .ok (.istore_n 1, 1) := by decide +kernel
theorem dX6_canClose_54 : decode cX6_canClose 54 = .ok (.iinc 2 1, 3) := by decide +kernel
theorem dX6_canClose_57 : decode cX6_canClose 57 = .ok (.goto (-42), 3) := by decide +kernel
theorem dX6_canClose_60 : decode cX6_canClose 60 = .ok (.iload_n 1, 1) := by decide +kernel
theorem dX6_canClose_61 : decode cX6_canClose 61 = .ok (.ireturn, 1) := by decide +kernel
