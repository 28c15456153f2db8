theorem dX11_faults_0 : decode cX11_faults 0 = .ok (.aload_n 0, 1) := by decide +kernel
theorem dX11_faults_1 : decode cX11_faults 1 = .ok (.getfield 21, 3) := by decide +kernel
theorem dX11_faults_4 : decode cX11_faults 4 = .ok (.getfield 106, 3) := by decide +kernel
theorem dX11_faults_7 : decode cX11_faults 7 = .ok (.ireturn, 1) := by decide +kernel
theorem dX11_lineOf_0 : decode cX11_lineOf 0 = .ok (.aload_n 0, 1) := by decide +kernel
theorem dX11_lineOf_1 : decode cX11_lineOf 1 = .ok (.iload_n 1, 1) := by decide +kernel
theorem dX11_lineOf_2 : decode cX11_lineOf 2 = .ok (.invokevirtual 107, 3) := by decide +kernel
theorem dX11_lineOf_5 : decode cX11_lineOf 5 = .ok (.aload_n 0, 1) := by decide +kernel
theorem dX11_lineOf_6 : decode cX11_lineOf 6 = .ok (.getfield 21, 3) := by decide +kernel
theorem dX11_lineOf_9 : decode cX11_lineOf 9 = .ok (.getfield 216, 3) := by decide +kernel
theorem dX11_lineOf_12 : decode cX11_lineOf 12 = .ok (.iload_n 1, 1) := by decide +kernel
theorem dX11_lineOf_13 : decode cX11_lineOf 13 = .ok (.iaload, 1) := by decide +kernel
theorem dX11_lineOf_14 : decode cX11_lineOf 14 = .ok (.ireturn, 1) := by decide +kernel
theorem dX11_needFault_0 : decode cX11_needFault 0 = .ok (.iload_n 1, 1) := by decide +kernel
theorem dX11_needFault_1 : decode cX11_needFault 1 = .ok (.ifCond .lt 14, 3) := by decide +kernel
theorem dX11_needFault_4 : decode cX11_needFault 4 = .ok (.iload_n 1, 1) := by decide +kernel
theorem dX11_needFault_5 : decode cX11_needFault 5 = .ok (.aload_n 0, 1) := by decide +kernel
theorem dX11_needFault_6 : decode cX11_needFault 6 = .ok (.getfield 21, 3) := by decide +kernel
theorem dX11_needFault_9 : decode cX11_needFault 9 = .ok (.getfield 106, 3) := by decide +kernel
theorem dX11_needFault_12 : decode cX11_needFault 12 = .ok (.if_icmp .lt 11, 3) := by decide +kernel
theorem dX11_needFault_15 : decode cX11_needFault 15 = .ok (.new 100, 3) := by decide +kernel
theorem dX11_needFault_18 : decode cX11_needFault 18 = .ok (.dup, 1) := by decide +kernel
theorem dX11_needFault_19 : decode cX11_needFault 19 = .ok (.invokespecial 102, 3) := by decide +kernel
theorem dX11_needFault_22 : decode cX11_needFault 22 = .ok (.athrow, 1) := by decide +kernel
theorem dX11_needFault_23 : decode cX11_needFault 23 = .ok (.return_, 1) := by decide +kernel
theorem dX11_needLine_0 : decode cX11_needLine 0 = .ok (.iload_n 1, 1) := by decide +kernel
theorem dX11_needLine_1 : decode cX11_needLine 1 = .ok (.ifCond .lt 14, 3) := by decide +kernel
theorem dX11_needLine_4 : decode cX11_needLine 4 = .ok (.iload_n 1, 1) := by decide +kernel
theorem dX11_needLine_5 : decode cX11_needLine 5 = .ok (.aload_n 0, 1) := by decide +kernel
theorem dX11_needLine_6 : decode cX11_needLine 6 = .ok (.getfield 10, 3) := by decide +kernel
theorem dX11_needLine_9 : decode cX11_needLine 9 = .ok (.getfield 96, 3) := by decide +kernel
theorem dX11_needLine_12 : decode cX11_needLine 12 = .ok (.if_icmp .lt 11, 3) := by decide +kernel
theorem dX11_needLine_15 : decode cX11_needLine 15 = .ok (.new 100, 3) := by decide +kernel
theorem dX11_needLine_18 : decode cX11_needLine 18 = .ok (.dup, 1) := by decide +kernel
theorem dX11_needLine_19 : decode cX11_needLine 19 = .ok (.invokespecial 102, 3) := by decide +kernel
theorem dX11_needLine_22 : decode cX11_needLine 22 = .ok (.athrow, 1) := by decide +kernel
theorem dX11_needLine_23 : decode cX11_needLine 23 = .ok (.return_, 1) := by decide +kernel
theorem dX11_needPattern_0 : decode cX11_needPattern 0 = .ok (.iload_n 1, 1) := by decide +kernel
theorem dX11_needPattern_1 : decode cX11_needPattern 1 = .ok (.ifCond .lt 14, 3) := by decide +kernel
theorem dX11_needPattern_4 : decode cX11_needPattern 4 = .ok (.iload_n 1, 1) := by decide +kernel
theorem dX11_needPattern_5 : decode cX11_needPattern 5 = .ok (.aload_n 0, 1) := by decide +kernel
theorem dX11_needPattern_6 : decode cX11_needPattern 6 = .ok (.getfield 28, 3) := by decide +kernel
theorem dX11_needPattern_9 : decode cX11_needPattern 9 = .ok (.getfield 103, 3) := by decide +kernel
theorem dX11_needPattern_12 : decode cX11_needPattern 12 = .ok (.if_icmp .lt 11, 3) := by decide +kernel
theorem dX11_needPattern_15 : decode cX11_needPattern 15 = .ok (.new 100, 3) := by decide +kernel
theorem dX11_needPattern_18 : decode cX11_needPattern 18 = .ok (.dup, 1) := by decide +kernel
theorem dX11_needPattern_19 : decode cX11_needPattern 19 = .ok (.invokespecial 102, 3) := by decide +kernel
theorem dX11_needPattern_22 : decode cX11_needPattern 22 = .ok (.athrow, 1) := by decide +kernel
theorem dX11_needPattern_23 : decode cX11_needPattern 23 = .ok (.return_, 1) := by decide +kernel
theorem dX11_needRange_0 : decode cX11_needRange 0 = .ok (.iload_n 0, 1) := by decide +kernel
theorem dX11_needRange_1 : decode cX11_needRange 1 = .ok (.iload_n 1, 1) := by decide +kernel
theorem dX11_needRange_2 : decode cX11_needRange 2 = .ok (.if_icmp .lt 8, 3) := by decide +kernel
theorem dX11_needRange_5 : decode cX11_needRange 5 = .ok (.iload_n 0, 1) := by decide +kernel
theorem dX11_needRange_6 : decode cX11_needRange 6 = .ok (.iload_n 2, 1) := by decide +kernel
theorem dX11_needRange_7 : decode cX11_needRange 7 = .ok (.if_icmp .le 11, 3) := by decide +kernel
theorem dX11_needRange_10 : decode cX11_needRange 10 = .ok (.new 114, 3) := by decide +kernel
theorem dX11_needRange_13 : decode cX11_needRange 13 = .ok (.dup, 1) := by decide +kernel
theorem dX11_needRange_14 : decode cX11_needRange 14 = .ok (.invokespecial 116, 3) := by decide +kernel
theorem dX11_needRange_17 : decode cX11_needRange 17 = .ok (.athrow, 1) := by decide +kernel
theorem dX11_needRange_18 : decode cX11_needRange 18 = .ok (.return_, 1) := by decide +kernel
theorem dX11_setTime_0 : decode cX11_setTime 0 = .ok (.aload_n 0, 1) := by decide +kernel
theorem dX11_setTime_1 : decode cX11_setTime 1 = .ok (.iload_n 1, 1) := by decide +kernel
theorem dX11_setTime_2 : decode cX11_setTime 2 = .ok (.invokevirtual 200, 3) := by decide +kernel
theorem dX11_setTime_5 : decode cX11_setTime 5 = .ok (.iload_n 2, 1) := by decide +kernel
theorem dX11_setTime_6 : decode cX11_setTime 6 = .ok (.iconst 1, 1) := by decide +kernel
theorem dX11_setTime_7 : decode cX11_setTime 7 = .ok (.bipush 99, 2) := by decide +kernel
theorem dX11_setTime_9 : decode cX11_setTime 9 = .ok (.invokestatic 361, 3) := by decide +kernel
theorem dX11_setTime_12 : decode cX11_setTime 12 = .ok (.aload_n 0, 1) := by decide +kernel
theorem dX11_setTime_13 : decode cX11_setTime 13 = .ok (.getfield 28, 3) := by decide +kernel
theorem dX11_setTime_16 : decode cX11_setTime 16 = .ok (.getfield 468, 3) := by decide +kernel
theorem dX11_setTime_19 : decode cX11_setTime 19 = .ok (.iload_n 1, 1) := by decide +kernel
theorem dX11_setTime_20 : decode cX11_setTime 20 = .ok (.iaload, 1) := by decide +kernel
theorem dX11_setTime_21 : decode cX11_setTime 21 = .ok (.istore_n 3, 1) := by decide +kernel
theorem dX11_setTime_22 : decode cX11_setTime 22 = .ok (.aload_n 0, 1) := by decide +kernel
theorem dX11_setTime_23 : decode cX11_setTime 23 = .ok (.getfield 28, 3) := by decide +kernel
theorem dX11_setTime_26 : decode cX11_setTime 26 = .ok (.getfield 468, 3) := by decide +kernel
theorem dX11_setTime_29 : decode cX11_setTime 29 = .ok (.iload_n 1, 1) := by decide +kernel
theorem dX11_setTime_30 : decode cX11_setTime 30 = .ok (.iload_n 2, 1) := by decide +kernel
theorem dX11_setTime_31 : decode cX11_setTime 31 = .ok (.iastore, 1) := by decide +kernel
theorem dX11_setTime_32 : decode cX11_setTime 32 = .ok (.iload_n 3, 1) := by decide +kernel
theorem dX11_setTime_33 : decode cX11_setTime 33 = .ok (.ireturn, 1) := by decide +kernel
theorem dX11_value_0 : decode cX11_value 0 = .ok (.aload_n 0, 1) := by decide +kernel
theorem dX11_value_1 : decode cX11_value 1 = .ok (.iload_n 1, 1) := by decide +kernel
theorem dX11_value_2 : decode cX11_value 2 = .ok (.invokevirtual 200, 3) := by decide +kernel
theorem dX11_value_5 : decode cX11_value 5 = .ok (.aload_n 0, 1) := by decide +kernel
theorem dX11_value_6 : decode cX11_value 6 = .ok (.iload_n 2, 1) := by decide +kernel
theorem dX11_value_7 : decode cX11_value 7 = .ok (.invokevirtual 149, 3) := by decide +kernel
theorem dX11_value_10 : decode cX11_value 10 = .ok (.aload_n 0, 1) := by decide +kernel
theorem dX11_value_11 : decode cX11_value 11 = .ok (.getfield 46, 3) := by decide +kernel
theorem dX11_value_14 : decode cX11_value 14 = .ok (.iload_n 1, 1) := by decide +kernel
theorem dX11_value_15 : decode cX11_value 15 = .ok (.invokevirtual 203, 3) := by decide +kernel
theorem dX11_value_18 : decode cX11_value 18 = .ok (.aload_n 0, 1) := by decide +kernel
theorem dX11_value_19 : decode cX11_value 19 = .ok (.getfield 46, 3) := by decide +kernel
theorem dX11_value_22 : decode cX11_value 22 = .ok (.getfield 206, 3) := by decide +kernel
theorem dX11_value_25 : decode cX11_value 25 = .ok (.iload_n 2, 1) := by decide +kernel
theorem dX11_value_26 : decode cX11_value 26 = .ok (.iaload, 1) := by decide +kernel
theorem dX11_value_27 : decode cX11_value 27 = .ok (.ireturn, 1) := by decide +kernel
