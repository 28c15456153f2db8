theorem w_1403 : Cond.methodLink RJ7 86 ⟨"java/lang/Object", "getClass", "()Ljava/lang/Class;"⟩ ∈ TG := tg (sg_10 _ (List.mem_of_getElem? (i := 71) (by decide +kernel))) (by decide +kernel)
theorem w_1404 : Cond.declares ⟨"java/lang/Object", "getClass", "()Ljava/lang/Class;"⟩ ∈ NWL := List.mem_filter.mpr ⟨(sh_15 _ (List.mem_of_getElem? (i := 24) (by decide +kernel))), by decide +kernel⟩
theorem w_1405 : Cond.selects "[Ljava/lang/Object;" ⟨"java/lang/Object", "getClass", "()Ljava/lang/Class;"⟩ ⟨"java/lang/Object", "getClass", "()Ljava/lang/Class;"⟩ ∈ TG := tg (sg_15 _ (List.mem_of_getElem? (i := 23) (by decide +kernel))) (by decide +kernel)
theorem w_1406 : Cond.instanceMethod ⟨"java/lang/Object", "getClass", "()Ljava/lang/Class;"⟩ ∈ TG := tg (sg_10 _ (List.mem_of_getElem? (i := 72) (by decide +kernel))) (by decide +kernel)
theorem w_1407 : Cond.native ⟨"java/lang/Object", "getClass", "()Ljava/lang/Class;"⟩ ∈ TG := tg (sg_10 _ (List.mem_of_getElem? (i := 102) (by decide +kernel))) (by decide +kernel)
theorem w_1408 : Cond.classLink RJ7 110 "[Ljava/lang/Object;" ∈ TG := tg (sg_10 _ (List.mem_of_getElem? (i := 106) (by decide +kernel))) (by decide +kernel)
theorem w_1409 : Cond.classLink RJ7 2 "java/lang/Object" ∈ TG := tg (sg_10 _ (List.mem_of_getElem? (i := 108) (by decide +kernel))) (by decide +kernel)
theorem w_1410 : Cond.methodLink RJ7 300 yJ7_copyOf_6403c ∈ TG := tg (sg_10 _ (List.mem_of_getElem? (i := 103) (by decide +kernel))) (by decide +kernel)
theorem w_1411 : Cond.code yJ7_copyOf_6403c cJ7_copyOf_6403c 4 (some (.array (.object "java/lang/Object"))) ∈ TG := tg (sg_10 _ (List.mem_of_getElem? (i := 105) (by decide +kernel))) (by decide +kernel)
theorem w_1412 : Cond.static yJ7_copyOf_6403c ∈ TG := tg (sg_10 _ (List.mem_of_getElem? (i := 104) (by decide +kernel))) (by decide +kernel)
theorem w_1413 : Cond.methodLink RJx4a65c 66 yJ7_copyOf_1904c ∈ TG := tg (sg_10 _ (List.mem_of_getElem? (i := 68) (by decide +kernel))) (by decide +kernel)
theorem w_1414 : Cond.code yJ7_copyOf_1904c cJ7_copyOf_1904c 2 (some (.array (.object "java/lang/Object"))) ∈ TG := tg (sg_10 _ (List.mem_of_getElem? (i := 70) (by decide +kernel))) (by decide +kernel)
theorem w_1415 : Cond.static yJ7_copyOf_1904c ∈ TG := tg (sg_10 _ (List.mem_of_getElem? (i := 69) (by decide +kernel))) (by decide +kernel)
theorem w_1416 : Cond.methodLink RJx4a65c 42 ⟨"java/util/Collection", "toArray", "()[Ljava/lang/Object;"⟩ ∈ TG := tg (sg_12 _ (List.mem_of_getElem? (i := 125) (by decide +kernel))) (by decide +kernel)
theorem w_1417 : Cond.code yJx4a65c_toArray_d5877 cJx4a65c_toArray_d5877 1 (some (.array (.object "java/lang/Object"))) ∈ TG := tg (sg_12 _ (List.mem_of_getElem? (i := 133) (by decide +kernel))) (by decide +kernel)
theorem w_1418 : Cond.selects RJx4a65c ⟨"java/util/Collection", "toArray", "()[Ljava/lang/Object;"⟩ yJx4a65c_toArray_d5877 ∈ TG := tg (sg_12 _ (List.mem_of_getElem? (i := 129) (by decide +kernel))) (by decide +kernel)
theorem w_1419 : Cond.instanceMethod yJx4a65c_toArray_d5877 ∈ TG := tg (sg_12 _ (List.mem_of_getElem? (i := 131) (by decide +kernel))) (by decide +kernel)
theorem w_1420 : Cond.methodLink RX15 373 ⟨"java/util/List", "addAll", "(Ljava/util/Collection;)Z"⟩ ∈ TG := tg (sg_12 _ (List.mem_of_getElem? (i := 116) (by decide +kernel))) (by decide +kernel)
theorem w_1421 : Cond.code yJx4a65c_addAll_f0b43 cJx4a65c_addAll_f0b43 6 (some .boolean) ∈ TG := tg (sg_12 _ (List.mem_of_getElem? (i := 123) (by decide +kernel))) (by decide +kernel)
theorem w_1422 : Cond.selects RJx4a65c ⟨"java/util/List", "addAll", "(Ljava/util/Collection;)Z"⟩ yJx4a65c_addAll_f0b43 ∈ TG := tg (sg_12 _ (List.mem_of_getElem? (i := 119) (by decide +kernel))) (by decide +kernel)
theorem w_1423 : Cond.instanceMethod yJx4a65c_addAll_f0b43 ∈ TG := tg (sg_12 _ (List.mem_of_getElem? (i := 121) (by decide +kernel))) (by decide +kernel)
theorem w_1424 : Cond.methodLink RL 302 yX11_mergeAll ∈ TG := tg (sg_3 _ (List.mem_of_getElem? (i := 127) (by decide +kernel))) (by decide +kernel)
theorem w_1425 : Cond.code yX11_mergeAll cX11_mergeAll 1 (some .int) ∈ TG := tg (sg_3 _ (List.mem_of_getElem? (i := 130) (by decide +kernel))) (by decide +kernel)
theorem w_1426 : Cond.instanceMethod yX11_mergeAll ∈ TG := tg (sg_3 _ (List.mem_of_getElem? (i := 128) (by decide +kernel))) (by decide +kernel)
theorem w_1427 : Cond.selects RX11 yX11_mergeAll yX11_mergeAll ∈ TG := tg (sg_3 _ (List.mem_of_getElem? (i := 129) (by decide +kernel))) (by decide +kernel)
theorem w_1428 : Cond.methodLink RL 305 yX15_mergeAll ∈ TG := tg (sg_12 _ (List.mem_of_getElem? (i := 102) (by decide +kernel))) (by decide +kernel)
theorem w_1429 : Cond.code yX15_mergeAll cX15_mergeAll 7 (some .int) ∈ TG := tg (sg_12 _ (List.mem_of_getElem? (i := 105) (by decide +kernel))) (by decide +kernel)
theorem w_1430 : Cond.instanceMethod yX15_mergeAll ∈ TG := tg (sg_12 _ (List.mem_of_getElem? (i := 103) (by decide +kernel))) (by decide +kernel)
theorem w_1431 : Cond.selects RX15 yX15_mergeAll yX15_mergeAll ∈ TG := tg (sg_12 _ (List.mem_of_getElem? (i := 104) (by decide +kernel))) (by decide +kernel)
theorem dJ7_copyOf_1904c_0 : decode cJ7_copyOf_1904c 0 = .ok (.aload_n 0, 1) := by decide +kernel
theorem dJ7_copyOf_1904c_1 : decode cJ7_copyOf_1904c 1 = .ok (.iload_n 1, 1) := by decide +kernel
theorem dJ7_copyOf_1904c_2 : decode cJ7_copyOf_1904c 2 = .ok (.aload_n 0, 1) := by decide +kernel
theorem dJ7_copyOf_1904c_3 : decode cJ7_copyOf_1904c 3 = .ok (.invokevirtual 86, 3) := by decide +kernel
theorem dJ7_copyOf_1904c_6 : decode cJ7_copyOf_1904c 6 = .ok (.invokestatic 300, 3) := by decide +kernel
theorem dJ7_copyOf_1904c_9 : decode cJ7_copyOf_1904c 9 = .ok (.areturn, 1) := by decide +kernel
theorem dJ7_copyOf_6403c_0 : decode cJ7_copyOf_6403c 0 = .ok (.aload_n 2, 1) := by decide +kernel
theorem dJ7_copyOf_6403c_1 : decode cJ7_copyOf_6403c 1 = .ok (.ldc 110, 2) := by decide +kernel
theorem dJ7_copyOf_6403c_3 : decode cJ7_copyOf_6403c 3 = .ok (.if_acmp .ne 10, 3) := by decide +kernel
theorem dJ7_copyOf_6403c_6 : decode cJ7_copyOf_6403c 6 = .ok (.iload_n 1, 1) := by decide +kernel
theorem dJ7_copyOf_6403c_7 : decode cJ7_copyOf_6403c 7 = .ok (.anewarray 2, 3) := by decide +kernel
theorem dJ7_copyOf_6403c_10 : decode cJ7_copyOf_6403c 10 = .ok (.goto 14, 3) := by decide +kernel
theorem dJ7_copyOf_6403c_13 : decode cJ7_copyOf_6403c 13 = .ok (.aload_n 2, 1) := by decide +kernel
theorem dJ7_copyOf_6403c_14 : decode cJ7_copyOf_6403c 14 = .ok (.invokevirtual 90, 3) := by decide +kernel
theorem dJ7_copyOf_6403c_17 : decode cJ7_copyOf_6403c 17 = .ok (.iload_n 1, 1) := by decide +kernel
theorem dJ7_copyOf_6403c_18 : decode cJ7_copyOf_6403c 18 = .ok (.invokestatic 95, 3) := by decide +kernel
theorem dJ7_copyOf_6403c_21 : decode cJ7_copyOf_6403c 21 = .ok (.checkcast 110, 3) := by decide +kernel
theorem dJ7_copyOf_6403c_24 : decode cJ7_copyOf_6403c 24 = .ok (.astore_n 3, 1) := by decide +kernel
theorem dJ7_copyOf_6403c_25 : decode cJ7_copyOf_6403c 25 = .ok (.aload_n 0, 1) := by decide +kernel
theorem dJ7_copyOf_6403c_26 : decode cJ7_copyOf_6403c 26 = .ok (.iconst 0, 1) := by decide +kernel
theorem dJ7_copyOf_6403c_27 : decode cJ7_copyOf_6403c 27 = .ok (.aload_n 3, 1) := by decide +kernel
theorem dJ7_copyOf_6403c_28 : decode cJ7_copyOf_6403c 28 = .ok (.iconst 0, 1) := by decide +kernel
theorem dJ7_copyOf_6403c_29 : decode cJ7_copyOf_6403c 29 = .ok (.aload_n 0, 1) := by decide +kernel
theorem dJ7_copyOf_6403c_30 : decode cJ7_copyOf_6403c 30 = .ok (.arraylength, 1) := by decide +kernel
theorem dJ7_copyOf_6403c_31 : decode cJ7_copyOf_6403c 31 = .ok (.iload_n 1, 1) := by decide +kernel
theorem dJ7_copyOf_6403c_32 : decode cJ7_copyOf_6403c 32 = .ok (.invokestatic 304, 3) := by decide +kernel
theorem dJ7_copyOf_6403c_35 : decode cJ7_copyOf_6403c 35 = .ok (.invokestatic 150, 3) := by decide +kernel
theorem dJ7_copyOf_6403c_38 : decode cJ7_copyOf_6403c 38 = .ok (.aload_n 3, 1) := by decide +kernel
theorem dJ7_copyOf_6403c_39 : decode cJ7_copyOf_6403c 39 = .ok (.areturn, 1) := by decide +kernel
theorem dJx4a65c_addAll_f0b43_0 : decode cJx4a65c_addAll_f0b43 0 = .ok (.aload_n 1, 1) := by decide +kernel
theorem dJx4a65c_addAll_f0b43_1 : decode cJx4a65c_addAll_f0b43 1 = .ok (.invokeinterface 42 1, 5) := by decide +kernel
theorem dJx4a65c_addAll_f0b43_6 : decode cJx4a65c_addAll_f0b43 6 = .ok (.astore_n 2, 1) := by decide +kernel
theorem dJx4a65c_addAll_f0b43_7 : decode cJx4a65c_addAll_f0b43 7 = .ok (.aload_n 0, 1) := by decide +kernel
theorem dJx4a65c_addAll_f0b43_8 : decode cJx4a65c_addAll_f0b43 8 = .ok (.dup, 1) := by decide +kernel
theorem dJx4a65c_addAll_f0b43_9 : decode cJx4a65c_addAll_f0b43 9 = .ok (.getfield 63, 3) := by decide +kernel
theorem dJx4a65c_addAll_f0b43_12 : decode cJx4a65c_addAll_f0b43 12 = .ok (.iconst 1, 1) := by decide +kernel
theorem dJx4a65c_addAll_f0b43_13 : decode cJx4a65c_addAll_f0b43 13 = .ok (.iadd, 1) := by decide +kernel
theorem dJx4a65c_addAll_f0b43_14 : decode cJx4a65c_addAll_f0b43 14 = .ok (.putfield 63, 3) := by decide +kernel
theorem dJx4a65c_addAll_f0b43_17 : decode cJx4a65c_addAll_f0b43 17 = .ok (.aload_n 2, 1) := by decide +kernel
theorem dJx4a65c_addAll_f0b43_18 : decode cJx4a65c_addAll_f0b43 18 = .ok (.arraylength, 1) := by decide +kernel
theorem dJx4a65c_addAll_f0b43_19 : decode cJx4a65c_addAll_f0b43 19 = .ok (.istore_n 3, 1) := by decide +kernel
theorem dJx4a65c_addAll_f0b43_20 : decode cJx4a65c_addAll_f0b43 20 = .ok (.iload_n 3, 1) := by decide +kernel
theorem dJx4a65c_addAll_f0b43_21 : decode cJx4a65c_addAll_f0b43 21 = .ok (.ifCond .ne 5, 3) := by decide +kernel
theorem dJx4a65c_addAll_f0b43_24 : decode cJx4a65c_addAll_f0b43 24 = .ok (.iconst 0, 1) := by decide +kernel
theorem dJx4a65c_addAll_f0b43_25 : decode cJx4a65c_addAll_f0b43 25 = .ok (.ireturn, 1) := by decide +kernel
theorem dJx4a65c_addAll_f0b43_26 : decode cJx4a65c_addAll_f0b43 26 = .ok (.iload_n 3, 1) := by decide +kernel
theorem dJx4a65c_addAll_f0b43_27 : decode cJx4a65c_addAll_f0b43 27 = .ok (.aload_n 0, 1) := by decide +kernel
theorem dJx4a65c_addAll_f0b43_28 : decode cJx4a65c_addAll_f0b43 28 = .ok (.getfield 9, 3) := by decide +kernel
theorem dJx4a65c_addAll_f0b43_31 : decode cJx4a65c_addAll_f0b43 31 = .ok (.dup, 1) := by decide +kernel
theorem dJx4a65c_addAll_f0b43_32 : decode cJx4a65c_addAll_f0b43 32 = .ok (.astore 4, 2) := by decide +kernel
theorem dJx4a65c_addAll_f0b43_34 : decode cJx4a65c_addAll_f0b43 34 = .ok (.arraylength, 1) := by decide +kernel
theorem dJx4a65c_addAll_f0b43_35 : decode cJx4a65c_addAll_f0b43 35 = .ok (.aload_n 0, 1) := by decide +kernel
theorem dJx4a65c_addAll_f0b43_36 : decode cJx4a65c_addAll_f0b43 36 = .ok (.getfield 48, 3) := by decide +kernel
theorem dJx4a65c_addAll_f0b43_39 : decode cJx4a65c_addAll_f0b43 39 = .ok (.dup, 1) := by decide +kernel
theorem dJx4a65c_addAll_f0b43_40 : decode cJx4a65c_addAll_f0b43 40 = .ok (.istore 5, 2) := by decide +kernel
theorem dJx4a65c_addAll_f0b43_42 : decode cJx4a65c_addAll_f0b43 42 = .ok (.isub, 1) := by decide +kernel
theorem dJx4a65c_addAll_f0b43_43 : decode cJx4a65c_addAll_f0b43 43 = .ok (.if_icmp .le 13, 3) := by decide +kernel
theorem dJx4a65c_addAll_f0b43_46 : decode cJx4a65c_addAll_f0b43 46 = .ok (.aload_n 0, 1) := by decide +kernel
theorem dJx4a65c_addAll_f0b43_47 : decode cJx4a65c_addAll_f0b43 47 = .ok (.iload 5, 2) := by decide +kernel
theorem dJx4a65c_addAll_f0b43_49 : decode cJx4a65c_addAll_f0b43 49 = .ok (.iload_n 3, 1) := by decide +kernel
theorem dJx4a65c_addAll_f0b43_50 : decode cJx4a65c_addAll_f0b43 50 = .ok (.iadd, 1) := by decide +kernel
theorem dJx4a65c_addAll_f0b43_51 : decode cJx4a65c_addAll_f0b43 51 = .ok (.invokevirtual 69, 3) := by decide +kernel
theorem dJx4a65c_addAll_f0b43_54 : decode cJx4a65c_addAll_f0b43 54 = .ok (.astore 4, 2) := by decide +kernel
theorem dJx4a65c_addAll_f0b43_56 : decode cJx4a65c_addAll_f0b43 56 = .ok (.aload_n 2, 1) := by decide +kernel
theorem dJx4a65c_addAll_f0b43_57 : decode cJx4a65c_addAll_f0b43 57 = .ok (.iconst 0, 1) := by decide +kernel
theorem dJx4a65c_addAll_f0b43_58 : decode cJx4a65c_addAll_f0b43 58 = .ok (.aload 4, 2) := by decide +kernel
theorem dJx4a65c_addAll_f0b43_60 : decode cJx4a65c_addAll_f0b43 60 = .ok (.iload 5, 2) := by decide +kernel
theorem dJx4a65c_addAll_f0b43_62 : decode cJx4a65c_addAll_f0b43 62 = .ok (.iload_n 3, 1) := by decide +kernel
theorem dJx4a65c_addAll_f0b43_63 : decode cJx4a65c_addAll_f0b43 63 = .ok (.invokestatic 112, 3) := by decide +kernel
theorem dJx4a65c_addAll_f0b43_66 : decode cJx4a65c_addAll_f0b43 66 = .ok (.aload_n 0, 1) := by decide +kernel
theorem dJx4a65c_addAll_f0b43_67 : decode cJx4a65c_addAll_f0b43 67 = .ok (.iload 5, 2) := by decide +kernel
theorem dJx4a65c_addAll_f0b43_69 : decode cJx4a65c_addAll_f0b43 69 = .ok (.iload_n 3, 1) := by decide +kernel
theorem dJx4a65c_addAll_f0b43_70 : decode cJx4a65c_addAll_f0b43 70 = .ok (.iadd, 1) := by decide +kernel
theorem dJx4a65c_addAll_f0b43_71 : decode cJx4a65c_addAll_f0b43 71 = .ok (.putfield 48, 3) := by decide +kernel
theorem dJx4a65c_addAll_f0b43_74 : decode cJx4a65c_addAll_f0b43 74 = .ok (.iconst 1, 1) := by decide +kernel
theorem dJx4a65c_addAll_f0b43_75 : decode cJx4a65c_addAll_f0b43 75 = .ok (.ireturn, 1) := by decide +kernel
theorem dJx4a65c_toArray_d5877_0 : decode cJx4a65c_toArray_d5877 0 = .ok (.aload_n 0, 1) := by decide +kernel
theorem dJx4a65c_toArray_d5877_1 : decode cJx4a65c_toArray_d5877 1 = .ok (.getfield 9, 3) := by decide +kernel
theorem dJx4a65c_toArray_d5877_4 : decode cJx4a65c_toArray_d5877 4 = .ok (.aload_n 0, 1) := by decide +kernel
theorem dJx4a65c_toArray_d5877_5 : decode cJx4a65c_toArray_d5877 5 = .ok (.getfield 48, 3) := by decide +kernel
theorem dJx4a65c_toArray_d5877_8 : decode cJx4a65c_toArray_d5877 8 = .ok (.invokestatic 66, 3) := by decide +kernel
theorem dJx4a65c_toArray_d5877_11 : decode cJx4a65c_toArray_d5877 11 = .ok (.areturn, 1) := by decide +kernel
theorem dX15_mergeAll_0 : decode cX15_mergeAll 0 = .ok (.aload_n 0, 1) := by decide +kernel
theorem dX15_mergeAll_1 : decode cX15_mergeAll 1 = .ok (.iconst 0, 1) := by decide +kernel
theorem dX15_mergeAll_2 : decode cX15_mergeAll 2 = .ok (.putfield 1, 3) := by decide +kernel
theorem dX15_mergeAll_5 : decode cX15_mergeAll 5 = .ok (.new 13, 3) := by decide +kernel
theorem dX15_mergeAll_8 : decode cX15_mergeAll 8 = .ok (.dup, 1) := by decide +kernel
theorem dX15_mergeAll_9 : decode cX15_mergeAll 9 = .ok (.invokespecial 15, 3) := by decide +kernel
theorem dX15_mergeAll_12 : decode cX15_mergeAll 12 = .ok (.astore_n 1, 1) := by decide +kernel
theorem dX15_mergeAll_13 : decode cX15_mergeAll 13 = .ok (.aload_n 0, 1) := by decide +kernel
theorem dX15_mergeAll_14 : decode cX15_mergeAll 14 = .ok (.getfield 32, 3) := by decide +kernel
theorem dX15_mergeAll_17 : decode cX15_mergeAll 17 = .ok (.invokeinterface 156 1, 5) := by decide +kernel
theorem dX15_mergeAll_22 : decode cX15_mergeAll 22 = .ok (.astore_n 2, 1) := by decide +kernel
theorem dX15_mergeAll_23 : decode cX15_mergeAll 23 = .ok (.aload_n 2, 1) := by decide +kernel
theorem dX15_mergeAll_24 : decode cX15_mergeAll 24 = .ok (.invokeinterface 160 1, 5) := by decide +kernel
theorem dX15_mergeAll_29 : decode cX15_mergeAll 29 = .ok (.ifCond .eq 97, 3) := by decide +kernel
theorem dX15_mergeAll_32 : decode cX15_mergeAll 32 = .ok (.aload_n 2, 1) := by decide +kernel
theorem dX15_mergeAll_33 : decode cX15_mergeAll 33 = .ok (.invokeinterface 166 1, 5) := by decide +kernel
theorem dX15_mergeAll_38 : decode cX15_mergeAll 38 = .ok (.checkcast 200, 3) := by decide +kernel
theorem dX15_mergeAll_41 : decode cX15_mergeAll 41 = .ok (.astore_n 3, 1) := by decide +kernel
theorem dX15_mergeAll_42 : decode cX15_mergeAll 42 = .ok (.aconst_null, 1) := by decide +kernel
theorem dX15_mergeAll_43 : decode cX15_mergeAll 43 = .ok (.astore 4, 2) := by decide +kernel
theorem dX15_mergeAll_45 : decode cX15_mergeAll 45 = .ok (.aload_n 1, 1) := by decide +kernel
theorem dX15_mergeAll_46 : decode cX15_mergeAll 46 = .ok (.invokeinterface 156 1, 5) := by decide +kernel
theorem dX15_mergeAll_51 : decode cX15_mergeAll 51 = .ok (.astore 5, 2) := by decide +kernel
theorem dX15_mergeAll_53 : decode cX15_mergeAll 53 = .ok (.aload 5, 2) := by decide +kernel
theorem dX15_mergeAll_55 : decode cX15_mergeAll 55 = .ok (.invokeinterface 160 1, 5) := by decide +kernel
theorem dX15_mergeAll_60 : decode cX15_mergeAll 60 = .ok (.ifCond .eq 41, 3) := by decide +kernel
theorem dX15_mergeAll_63 : decode cX15_mergeAll 63 = .ok (.aload 5, 2) := by decide +kernel
theorem dX15_mergeAll_65 : decode cX15_mergeAll 65 = .ok (.invokeinterface 166 1, 5) := by decide +kernel
theorem dX15_mergeAll_70 : decode cX15_mergeAll 70 = .ok (.checkcast 200, 3) := by decide +kernel
theorem dX15_mergeAll_73 : decode cX15_mergeAll 73 = .ok (.astore 6, 2) := by decide +kernel
theorem dX15_mergeAll_75 : decode cX15_mergeAll 75 = .ok (.aload 4, 2) := by decide +kernel
theorem dX15_mergeAll_77 : decode cX15_mergeAll 77 = .ok (.ifnonnull 17, 3) := by decide +kernel
theorem dX15_mergeAll_80 : decode cX15_mergeAll 80 = .ok (.aload 6, 2) := by decide +kernel
theorem dX15_mergeAll_82 : decode cX15_mergeAll 82 = .ok (.aload_n 3, 1) := by decide +kernel
theorem dX15_mergeAll_83 : decode cX15_mergeAll 83 = .ok (.invokestatic 359, 3) := by decide +kernel
theorem dX15_mergeAll_86 : decode cX15_mergeAll 86 = .ok (.ifCond .eq 8, 3) := by decide +kernel
theorem dX15_mergeAll_89 : decode cX15_mergeAll 89 = .ok (.aload 6, 2) := by decide +kernel
theorem dX15_mergeAll_91 : decode cX15_mergeAll 91 = .ok (.goto 5, 3) := by decide +kernel
theorem dX15_mergeAll_94 : decode cX15_mergeAll 94 = .ok (.aload 4, 2) := by decide +kernel
theorem dX15_mergeAll_96 : decode cX15_mergeAll 96 = .ok (.astore 4, 2) := by decide +kernel
theorem dX15_mergeAll_98 : decode cX15_mergeAll 98 = .ok (.goto (-45), 3) := by decide +kernel
theorem dX15_mergeAll_101 : decode cX15_mergeAll 101 = .ok (.aload 4, 2) := by decide +kernel
theorem dX15_mergeAll_103 : decode cX15_mergeAll 103 = .ok (.ifnonnull 14, 3) := by decide +kernel
theorem dX15_mergeAll_106 : decode cX15_mergeAll 106 = .ok (.aload_n 1, 1) := by decide +kernel
theorem dX15_mergeAll_107 : decode cX15_mergeAll 107 = .ok (.aload_n 3, 1) := by decide +kernel
theorem dX15_mergeAll_108 : decode cX15_mergeAll 108 = .ok (.invokeinterface 124 2, 5) := by decide +kernel
theorem dX15_mergeAll_113 : decode cX15_mergeAll 113 = .ok (.pop, 1) := by decide +kernel
theorem dX15_mergeAll_114 : decode cX15_mergeAll 114 = .ok (.goto 9, 3) := by decide +kernel
theorem dX15_mergeAll_117 : decode cX15_mergeAll 117 = .ok (.aload 4, 2) := by decide +kernel
theorem dX15_mergeAll_119 : decode cX15_mergeAll 119 = .ok (.aload_n 3, 1) := by decide +kernel
theorem dX15_mergeAll_120 : decode cX15_mergeAll 120 = .ok (.invokestatic 363, 3) := by decide +kernel
theorem dX15_mergeAll_123 : decode cX15_mergeAll 123 = .ok (.goto (-100), 3) := by decide +kernel
theorem dX15_mergeAll_126 : decode cX15_mergeAll 126 = .ok (.aload_n 0, 1) := by decide +kernel
theorem dX15_mergeAll_127 : decode cX15_mergeAll 127 = .ok (.getfield 32, 3) := by decide +kernel
theorem dX15_mergeAll_130 : decode cX15_mergeAll 130 = .ok (.invokeinterface 370 1, 5) := by decide +kernel
theorem dX15_mergeAll_135 : decode cX15_mergeAll 135 = .ok (.aload_n 0, 1) := by decide +kernel
theorem dX15_mergeAll_136 : decode cX15_mergeAll 136 = .ok (.getfield 32, 3) := by decide +kernel
theorem dX15_mergeAll_139 : decode cX15_mergeAll 139 = .ok (.aload_n 1, 1) := by decide +kernel
theorem dX15_mergeAll_140 : decode cX15_mergeAll 140 = .ok (.invokeinterface 373 2, 5) := by decide +kernel
theorem dX15_mergeAll_145 : decode cX15_mergeAll 145 = .ok (.pop, 1) := by decide +kernel
theorem dX15_mergeAll_146 : decode cX15_mergeAll 146 = .ok (.aload_n 0, 1) := by decide +kernel
theorem dX15_mergeAll_147 : decode cX15_mergeAll 147 = .ok (.getfield 32, 3) := by decide +kernel
theorem dX15_mergeAll_150 : decode cX15_mergeAll 150 = .ok (.invokeinterface 92 1, 5) := by decide +kernel
theorem dX15_mergeAll_155 : decode cX15_mergeAll 155 = .ok (.ireturn, 1) := by decide +kernel
theorem dL_law_1784 : decode cL_law 1784 = .ok (.aload_n 1, 1) := by decide +kernel
theorem dL_law_1785 : decode cL_law 1785 = .ok (.invokevirtual 302, 3) := by decide +kernel
theorem dL_law_1788 : decode cL_law 1788 = .ok (.aload_n 2, 1) := by decide +kernel
theorem dL_law_1789 : decode cL_law 1789 = .ok (.invokevirtual 305, 3) := by decide +kernel
theorem dL_law_1792 : decode cL_law 1792 = .ok (.if_icmp .eq 2472, 3) := by decide +kernel
set_option maxHeartbeats 4000000 in
set_option maxRecDepth 100000 in
theorem k_J7_copyOf_6403c (l : Launch) (D : va_G) (g : Nat → ClassId) (z0 sz : Nat) (a : Nat → Nat) : Met l yJ7_copyOf_6403c (.code yJ7_copyOf_6403c cJ7_copyOf_6403c 4 (some (.array (.object "java/lang/Object"))) :: TG) (rmk 1 1 0 64) (va_Pc [.ref (g 100), .int 0, .ref (g 102)] (PP D g z0 sz [])) (va_Qr (fun (u : Unit) => True) (fun (u : Unit) (r : Nat) (t : State) => ∃ (q_1 : Nat), q_1 = r ∧ va_P D vwCl [(q_1, .inl (g 8, 0, .inr (.inr (.inr (.inr (fun _ => none))))))] t.heap ∧ va_D (va_A [] sz) [(q_1, .inl (g 8, 0, .inr (.inr (.inr (.inr (fun _ => none))))))]) (va_A [] sz)) 1 0 (va_A [] sz) := by
  refine met0 (cc := cJ7_copyOf_6403c) (n := 4) (by decide) (Nat.le_of_ble_eq_true rfl) ?_
  intro p e s m args below meth c hx hb hr hml hown ht hlocks hnm hP0 hD0 hK hZ hsz hz ls hl
  subst hsz
  have hA : ∀ q : Nat, s.heap.size ≤ q → va_A [] s.heap.size q := Anw
  have hAz : ∀ q, va_A [] s.heap.size q → z0 ≤ q := Awz hz hD0
  have hS : va_S (va_A [] s.heap.size) s.heap s.heap [] := va_S.rf
  have hD : va_D (va_A [] s.heap.size) [] := hD0.self
  have hP : va_P D vwCl [] s.heap := hP0
  have hl : lv_has ls 4 [(0, .ref (g 100)), (1, .int 0), (2, .ref (g 102))] := hl
  refine lv_aload_n hx hb dJ7_copyOf_6403c_0 rfl (lv_at hl 2 rfl) ?_
  refine va_ldcM hx hb hown (ht _ w_1408) hK.2.2.2.2.2.2.2 dJ7_copyOf_6403c_1 ?_
  refine lv_acmp_ne (rx := (some (g 102))) (ry := (some (g 102))) (tgt := 13) hx hb dJ7_copyOf_6403c_3 (by decide) (fun h9 => absurd rfl h9) (fun _ => ?_)
  refine lv_iload_n hx hb dJ7_copyOf_6403c_6 rfl (lv_at hl 1 rfl) ?_
  refine r_newq hx hb hown (ht _ w_1409) hK hP hD hS hA (N' := 0) (by decide) (by decide) (by decide) (Nat.le_of_ble_eq_true rfl) (Nat.le_of_ble_eq_true rfl) dJ7_copyOf_6403c_7 (fun q_1 H hP hD hS => ?_)
  have hP : va_P D vwCl [(q_1, .inl (g 8, 0, .inr (.inr (.inr (.inr (fun _ => none))))))] H := hP
  have hD : va_D (va_A [] s.heap.size) [(q_1, .inl (g 8, 0, .inr (.inr (.inr (.inr (fun _ => none))))))] := hD
  refine lv_goto (tgt := 24) hx hb dJ7_copyOf_6403c_10 (by decide) ?_
  refine lv_astore_n (lv' := [(3, .ref q_1), (0, .ref (g 100)), (1, .int 0), (2, .ref (g 102))]) hx hb dJ7_copyOf_6403c_24 rfl hl (by decide) rfl (fun ls hl => ?_)
  refine lv_aload_n hx hb dJ7_copyOf_6403c_25 rfl (lv_at hl 1 rfl) ?_
  refine lv_iconst (v := 0) hx hb dJ7_copyOf_6403c_26 (by decide) ?_
  refine lv_aload_n hx hb dJ7_copyOf_6403c_27 rfl (lv_at hl 0 rfl) ?_
  refine lv_iconst (v := 0) hx hb dJ7_copyOf_6403c_28 (by decide) ?_
  refine lv_aload_n hx hb dJ7_copyOf_6403c_29 rfl (lv_at hl 1 rfl) ?_
  refine va_tlen (v := 0) hx hb (hZ.m hAz).2.1 hS rfl dJ7_copyOf_6403c_30 ?_
  refine lv_iload_n hx hb dJ7_copyOf_6403c_31 rfl (lv_at hl 2 rfl) ?_
  refine va_mmin hx hb (hml.trans hl.1.symm) hown (ht _ w_1378) (ht _ w_413) (ht _ w_410) (ht _ w_414) (Nat.le_of_ble_eq_true rfl) (Nat.le_of_ble_eq_true rfl) (Nat.le_of_ble_eq_true rfl) (Nat.le_of_ble_eq_true rfl) dJ7_copyOf_6403c_32 ?_
  refine r_topi (v := 0) (by decide) ?_
  refine va_copyg hx hb (hml.trans hl.1.symm) hown (ht _ w_1379) (ht _ w_1321) (ht _ w_1322) (ht _ w_1323) hK.1 hP hD hS 0 8 (hZ.m hAz).2.1 rfl rfl (by decide) (by decide) (by decide) (by decide) (by decide) (Nat.le_of_ble_eq_true rfl) (Nat.le_of_ble_eq_true rfl) dJ7_copyOf_6403c_35 (fun H locs hP hD hS => ?_)
  rw [cpy0q] at hP hD
  have hP : va_P D vwCl [(q_1, .inl (g 8, 0, .inr (.inr (.inr (.inr (fun _ => none))))))] H := hP
  have hD : va_D (va_A [] s.heap.size) [(q_1, .inl (g 8, 0, .inr (.inr (.inr (.inr (fun _ => none))))))] := hD
  refine lv_aload_n hx hb dJ7_copyOf_6403c_38 rfl (lv_at hl 0 rfl) ?_
  have hP9 := hP.sub (ws' := [(q_1, .inl (g 8, 0, .inr (.inr (.inr (.inr (fun _ => none))))))]) [0] rfl
  have hD9 := hD.sub (ws' := [(q_1, .inl (g 8, 0, .inr (.inr (.inr (.inr (fun _ => none))))))]) [0] (by decide) rfl
  refine W.widen (k := 1) (n := 0) (Nat.le_of_ble_eq_true rfl) (Nat.le_of_ble_eq_true rfl) ?_
  exact W.aret (v := .ref q_1) hx hb hr (Or.inr ⟨_, rfl⟩) (Or.inr ⟨_, rfl⟩) (fun t ht9 hW9 => ⟨⟨(), _, rfl, trivial, ⟨q_1, rfl, (by rw [ht9]; exact hP9), hD9⟩⟩, hS.F ht9⟩) hS.2.2 dJ7_copyOf_6403c_39 hlocks
set_option maxHeartbeats 4000000 in
set_option maxRecDepth 100000 in
theorem k_J7_copyOf_1904c (l : Launch) (D : va_G) (g : Nat → ClassId) (z0 sz : Nat) (a : Nat → Nat) : Met l yJ7_copyOf_1904c (.code yJ7_copyOf_1904c cJ7_copyOf_1904c 2 (some (.array (.object "java/lang/Object"))) :: TG) (rmk 2 1 0 87) (va_Pc [.ref (g 100), .int 0] (PP D g z0 sz [])) (va_Qr (fun (u : Unit) => True) (fun (u : Unit) (r : Nat) (t : State) => ∃ (q_1 : Nat), q_1 = r ∧ va_P D vwCl [(q_1, .inl (g 8, 0, .inr (.inr (.inr (.inr (fun _ => none))))))] t.heap ∧ va_D (va_A [] sz) [(q_1, .inl (g 8, 0, .inr (.inr (.inr (.inr (fun _ => none))))))]) (va_A [] sz)) 1 0 (va_A [] sz) := by
  refine met0 (cc := cJ7_copyOf_1904c) (n := 2) (by decide) (Nat.le_of_ble_eq_true rfl) ?_
  intro p e s m args below meth c hx hb hr hml hown ht hlocks hnm hP0 hD0 hK hZ hsz hz ls hl
  subst hsz
  have hA : ∀ q : Nat, s.heap.size ≤ q → va_A [] s.heap.size q := Anw
  have hAz : ∀ q, va_A [] s.heap.size q → z0 ≤ q := Awz hz hD0
  have hS : va_S (va_A [] s.heap.size) s.heap s.heap [] := va_S.rf
  have hD : va_D (va_A [] s.heap.size) [] := hD0.self
  have hP : va_P D vwCl [] s.heap := hP0
  have hl : lv_has ls 2 [(0, .ref (g 100)), (1, .int 0)] := hl
  refine lv_aload_n hx hb dJ7_copyOf_1904c_0 rfl (lv_at hl 0 rfl) ?_
  refine lv_iload_n hx hb dJ7_copyOf_1904c_1 rfl (lv_at hl 1 rfl) ?_
  refine lv_aload_n hx hb dJ7_copyOf_1904c_2 rfl (lv_at hl 0 rfl) ?_
  refine va_getC (C := "[Ljava/lang/Object;") hx hb (hml.trans hl.1.symm) hown (ht _ w_1403) (hK.2.2.use w_1404) (ht _ w_1405) (ht _ w_1406) (ht _ w_1407) hK.2.2.2.2.2.2.2 (va_Orecv (hZ.m hAz).2.2.2.2.2.2.2.2 hS) (Nat.le_of_ble_eq_true rfl) (Nat.le_of_ble_eq_true rfl) dJ7_copyOf_1904c_3 ?_
  have hPc : va_P D vwCl [] _ := hP.sub (ws' := []) [] rfl
  have hDc : va_D (fun q => z0 ≤ q) [] := (hD.to hAz).pick (ws' := []) [] (by decide) rfl
  have hFc := va_free (wc := []) hD hS hA [] rfl
  refine va_callr (va_runS (As := [.ref (g 100), .int 0, .ref (g 102)]) (rest := []) ⟨hx, hb, hml, hown, ht⟩ (k_J7_copyOf_6403c l D g z0 _ a) (va_cwS 3 ht (gS w_1410 w_1412 w_8 w_1411) rfl rfl rfl (by decide +kernel) (le2 rfl rfl)) ⟨PP.blind, PP.mk' hK hZ hz hAz hS hPc hDc⟩ rfl rfl hl.1 rfl (lv_room (Nat.le_of_ble_eq_true rfl)) dJ7_copyOf_1904c_6 (le2 rfl rfl)) hS (fun q _ h => hFc q h) hFc (fun u ra t H locs ht1 hvm hw hB hz1 hk1 hS => ?_)
  obtain ⟨q_1, hr9, hP1, hD1⟩ := hB
  rw [ht1] at hP1
  obtain ⟨hP, hD⟩ := va_join (wr := []) (w1 := [(q_1, .inl (g 8, 0, .inr (.inr (.inr (.inr (fun _ => none))))))]) hP hD [] [] rfl rfl (by decide) (by decide) hk1 hFc hP1 hD1
  subst hr9
  have hP : va_P D vwCl [(q_1, .inl (g 8, 0, .inr (.inr (.inr (.inr (fun _ => none))))))] H := hP
  have hD : va_D (va_A [] s.heap.size) [(q_1, .inl (g 8, 0, .inr (.inr (.inr (.inr (fun _ => none))))))] := hD
  have hP9 := hP.sub (ws' := [(q_1, .inl (g 8, 0, .inr (.inr (.inr (.inr (fun _ => none))))))]) [0] rfl
  have hD9 := hD.sub (ws' := [(q_1, .inl (g 8, 0, .inr (.inr (.inr (.inr (fun _ => none))))))]) [0] (by decide) rfl
  refine W.widen (k := 1) (n := 0) (Nat.le_of_ble_eq_true rfl) (Nat.le_of_ble_eq_true rfl) ?_
  exact W.aret (v := .ref q_1) hx hb hr (Or.inr ⟨_, rfl⟩) (Or.inr ⟨_, rfl⟩) (fun t ht9 hW9 => ⟨⟨(), _, rfl, trivial, ⟨q_1, rfl, (by rw [ht9]; exact hP9), hD9⟩⟩, hS.F ht9⟩) hS.2.2 dJ7_copyOf_1904c_9 hlocks
set_option maxHeartbeats 4000000 in
set_option maxRecDepth 100000 in
theorem k_Jx4a65c_toArray_d5877 (l : Launch) (D : va_G) (g : Nat → ClassId) (z0 sz : Nat) (a : Nat → Nat) (h0 : Nat) : Met l yJx4a65c_toArray_d5877 (.code yJx4a65c_toArray_d5877 cJx4a65c_toArray_d5877 1 (some (.array (.object "java/lang/Object"))) :: TG) (rmk 3 1 0 108) (va_Pc [.ref h0] (PP D g z0 sz [(h0, .inr (5, [.int 0, .ref (g 100), .int 0]))])) (va_Qr (fun (u : Unit) => True) (fun (u : Unit) (r : Nat) (t : State) => ∃ (q_1 : Nat), q_1 = r ∧ va_P D vwCl [(h0, .inr (5, [.int 0, .ref (g 100), .int 0])), (q_1, .inl (g 8, 0, .inr (.inr (.inr (.inr (fun _ => none))))))] t.heap ∧ va_D (va_A [(h0, .inr (5, [.int 0, .ref (g 100), .int 0]))] sz) [(h0, .inr (5, [.int 0, .ref (g 100), .int 0])), (q_1, .inl (g 8, 0, .inr (.inr (.inr (.inr (fun _ => none))))))]) (va_A [(h0, .inr (5, [.int 0, .ref (g 100), .int 0]))] sz)) 1 0 (va_A [(h0, .inr (5, [.int 0, .ref (g 100), .int 0]))] sz) := by
  refine met0 (cc := cJx4a65c_toArray_d5877) (n := 1) (by decide) (Nat.le_of_ble_eq_true rfl) ?_
  intro p e s m args below meth c hx hb hr hml hown ht hlocks hnm hP0 hD0 hK hZ hsz hz ls hl
  subst hsz
  have hA : ∀ q : Nat, s.heap.size ≤ q → va_A [(h0, .inr (5, [.int 0, .ref (g 100), .int 0]))] s.heap.size q := Anw
  have hAz : ∀ q, va_A [(h0, .inr (5, [.int 0, .ref (g 100), .int 0]))] s.heap.size q → z0 ≤ q := Awz hz hD0
  have hS : va_S (va_A [(h0, .inr (5, [.int 0, .ref (g 100), .int 0]))] s.heap.size) s.heap s.heap [] := va_S.rf
  have hD : va_D (va_A [(h0, .inr (5, [.int 0, .ref (g 100), .int 0]))] s.heap.size) [(h0, .inr (5, [.int 0, .ref (g 100), .int 0]))] := hD0.self
  have hP : va_P D vwCl [(h0, .inr (5, [.int 0, .ref (g 100), .int 0]))] s.heap := hP0
  have hl : lv_has ls 1 [(0, .ref h0)] := hl
  refine lv_aload_n hx hb dJx4a65c_toArray_d5877_0 rfl (lv_at hl 0 rfl) ?_
  refine va_get (D := D) (ci := 5) (v := .ref (g 100)) (C := RJx4a65c) (T := TJx4a65c) (N := 3) hx hb ht in_Jx4a65c hown hK.1 hP 0 rfl rfl 1 (by decide) (ht _ w_348) (fun _ h9 => h9) rfl dJx4a65c_toArray_d5877_1 ?_
  refine lv_aload_n hx hb dJx4a65c_toArray_d5877_4 rfl (lv_at hl 0 rfl) ?_
  refine va_get (D := D) (ci := 5) (v := .int 0) (C := RJx4a65c) (T := TJx4a65c) (N := 3) hx hb ht in_Jx4a65c hown hK.1 hP 0 rfl rfl 2 (by decide) (ht _ w_355) (fun _ h9 => h9) rfl dJx4a65c_toArray_d5877_5 ?_
  have hPc : va_P D vwCl [] _ := hP.sub (ws' := []) [] rfl
  have hDc : va_D (fun q => z0 ≤ q) [] := (hD.to hAz).pick (ws' := []) [] (by decide) rfl
  have hFc := va_free (wc := []) hD hS hA [] rfl
  refine va_callr (va_runS (As := [.ref (g 100), .int 0]) (rest := []) ⟨hx, hb, hml, hown, ht⟩ (k_J7_copyOf_1904c l D g z0 _ a) (va_cwS 2 ht (gS w_1413 w_1415 w_8 w_1414) rfl rfl rfl (by decide +kernel) (le2 rfl rfl)) ⟨PP.blind, PP.mk' hK hZ hz hAz hS hPc hDc⟩ rfl rfl hl.1 rfl (lv_room (Nat.le_of_ble_eq_true rfl)) dJx4a65c_toArray_d5877_8 (le2 rfl rfl)) hS (fun q _ h => hFc q h) hFc (fun u ra t H locs ht1 hvm hw hB hz1 hk1 hS => ?_)
  obtain ⟨q_1, hr9, hP1, hD1⟩ := hB
  rw [ht1] at hP1
  obtain ⟨hP, hD⟩ := va_join (wr := [(h0, .inr (5, [.int 0, .ref (g 100), .int 0]))]) (w1 := [(q_1, .inl (g 8, 0, .inr (.inr (.inr (.inr (fun _ => none))))))]) hP hD [] [0] rfl rfl (by decide) (by decide) hk1 hFc hP1 hD1
  subst hr9
  have hP : va_P D vwCl [(h0, .inr (5, [.int 0, .ref (g 100), .int 0])), (q_1, .inl (g 8, 0, .inr (.inr (.inr (.inr (fun _ => none))))))] H := hP
  have hD : va_D (va_A [(h0, .inr (5, [.int 0, .ref (g 100), .int 0]))] s.heap.size) [(h0, .inr (5, [.int 0, .ref (g 100), .int 0])), (q_1, .inl (g 8, 0, .inr (.inr (.inr (.inr (fun _ => none))))))] := hD
  have hP9 := hP.sub (ws' := [(h0, .inr (5, [.int 0, .ref (g 100), .int 0])), (q_1, .inl (g 8, 0, .inr (.inr (.inr (.inr (fun _ => none))))))]) [0, 1] rfl
  have hD9 := hD.sub (ws' := [(h0, .inr (5, [.int 0, .ref (g 100), .int 0])), (q_1, .inl (g 8, 0, .inr (.inr (.inr (.inr (fun _ => none))))))]) [0, 1] (by decide) rfl
  refine W.widen (k := 1) (n := 0) (Nat.le_of_ble_eq_true rfl) (Nat.le_of_ble_eq_true rfl) ?_
  exact W.aret (v := .ref q_1) hx hb hr (Or.inr ⟨_, rfl⟩) (Or.inr ⟨_, rfl⟩) (fun t ht9 hW9 => ⟨⟨(), _, rfl, trivial, ⟨q_1, rfl, (by rw [ht9]; exact hP9), hD9⟩⟩, hS.F ht9⟩) hS.2.2 dJx4a65c_toArray_d5877_11 hlocks
set_option maxHeartbeats 4000000 in
set_option maxRecDepth 100000 in
theorem k_Jx4a65c_addAll_f0b43 (l : Launch) (D : va_G) (g : Nat → ClassId) (z0 sz : Nat) (a : Nat → Nat) (h0 : Nat) (h1 : Nat) : Met l yJx4a65c_addAll_f0b43 (.code yJx4a65c_addAll_f0b43 cJx4a65c_addAll_f0b43 6 (some .boolean) :: TG) (rmk 4 1 0 128) (va_Pc [.ref h0, .ref h1] (PP D g z0 sz [(h1, .inr (5, [.int 0, .ref (g 100), .int 0])), (h0, .inr (5, [.int 1, .ref (g 100), .int 0]))])) (va_Qi (fun (r : Int32) (u : Unit) => (r = 0) ∧ True) (fun (u : Unit) (t : State) => va_P D vwCl [(h0, .inr (5, [.int 2, .ref (g 100), .int 0])), (h1, .inr (5, [.int 0, .ref (g 100), .int 0]))] t.heap ∧ va_D (va_A [(h1, .inr (5, [.int 0, .ref (g 100), .int 0])), (h0, .inr (5, [.int 1, .ref (g 100), .int 0]))] sz) [(h0, .inr (5, [.int 2, .ref (g 100), .int 0])), (h1, .inr (5, [.int 0, .ref (g 100), .int 0]))]) (va_A [(h1, .inr (5, [.int 0, .ref (g 100), .int 0])), (h0, .inr (5, [.int 1, .ref (g 100), .int 0]))] sz)) 1 0 (va_A [(h1, .inr (5, [.int 0, .ref (g 100), .int 0])), (h0, .inr (5, [.int 1, .ref (g 100), .int 0]))] sz) := by
  refine met0 (cc := cJx4a65c_addAll_f0b43) (n := 6) (by decide) (Nat.le_of_ble_eq_true rfl) ?_
  intro p e s m args below meth c hx hb hr hml hown ht hlocks hnm hP0 hD0 hK hZ hsz hz ls hl
  subst hsz
  have hA : ∀ q : Nat, s.heap.size ≤ q → va_A [(h1, .inr (5, [.int 0, .ref (g 100), .int 0])), (h0, .inr (5, [.int 1, .ref (g 100), .int 0]))] s.heap.size q := Anw
  have hAz : ∀ q, va_A [(h1, .inr (5, [.int 0, .ref (g 100), .int 0])), (h0, .inr (5, [.int 1, .ref (g 100), .int 0]))] s.heap.size q → z0 ≤ q := Awz hz hD0
  have hS : va_S (va_A [(h1, .inr (5, [.int 0, .ref (g 100), .int 0])), (h0, .inr (5, [.int 1, .ref (g 100), .int 0]))] s.heap.size) s.heap s.heap [] := va_S.rf
  have hD : va_D (va_A [(h1, .inr (5, [.int 0, .ref (g 100), .int 0])), (h0, .inr (5, [.int 1, .ref (g 100), .int 0]))] s.heap.size) [(h1, .inr (5, [.int 0, .ref (g 100), .int 0])), (h0, .inr (5, [.int 1, .ref (g 100), .int 0]))] := hD0.self
  have hP : va_P D vwCl [(h1, .inr (5, [.int 0, .ref (g 100), .int 0])), (h0, .inr (5, [.int 1, .ref (g 100), .int 0]))] s.heap := hP0
  have hl : lv_has ls 6 [(0, .ref h0), (1, .ref h1)] := hl
  refine lv_aload_n hx hb dJx4a65c_addAll_f0b43_0 rfl (lv_at hl 1 rfl) ?_
  have hPc : va_P D vwCl [(h1, .inr (5, [.int 0, .ref (g 100), .int 0]))] _ := hP.sub (ws' := [(h1, .inr (5, [.int 0, .ref (g 100), .int 0]))]) [0] rfl
  have hDc : va_D (fun q => z0 ≤ q) [(h1, .inr (5, [.int 0, .ref (g 100), .int 0]))] := (hD.to hAz).pick (ws' := [(h1, .inr (5, [.int 0, .ref (g 100), .int 0]))]) [0] (by decide) rfl
  have hFc := va_free (wc := [(h1, .inr (5, [.int 0, .ref (g 100), .int 0]))]) hD hS hA [0] rfl
  refine va_callFr (va_runF (As := []) (rest := []) (hK.1.1 5 _ rfl).2 ⟨hx, hb, hml, hown, ht⟩ (k_Jx4a65c_toArray_d5877 l D g z0 _ a h1) (va_cwF 0 ht (gF w_1416 w_1418 w_1419 w_323 w_1417) rfl rfl rfl (hK.2.2.2.1 _ (List.mem_of_getElem? (i := 10) rfl)) (by decide +kernel) (le2 rfl rfl)) ⟨PP.blind, va_recv hK.1 hP (ci := 5) (q0 := 0) rfl rfl, PP.mk' hK hZ hz hAz hS hPc hDc⟩ rfl rfl hl.1 rfl (lv_room (Nat.le_of_ble_eq_true rfl)) dJx4a65c_addAll_f0b43_1 (le2 rfl rfl)) hS (fun q _ h => hFc q h) hFc (fun u ra t H locs ht1 hvm hw hB hz1 hk1 hS => ?_)
  obtain ⟨q_1, hr9, hP1, hD1⟩ := hB
  rw [ht1] at hP1
  obtain ⟨hP, hD⟩ := va_join (wr := [(h0, .inr (5, [.int 1, .ref (g 100), .int 0]))]) (w1 := [(h1, .inr (5, [.int 0, .ref (g 100), .int 0])), (q_1, .inl (g 8, 0, .inr (.inr (.inr (.inr (fun _ => none))))))]) hP hD [0] [1] rfl rfl (by decide) (by decide) hk1 hFc hP1 hD1
  subst hr9
  have hP : va_P D vwCl [(h0, .inr (5, [.int 1, .ref (g 100), .int 0])), (h1, .inr (5, [.int 0, .ref (g 100), .int 0])), (q_1, .inl (g 8, 0, .inr (.inr (.inr (.inr (fun _ => none))))))] H := hP
  have hD : va_D (va_A [(h1, .inr (5, [.int 0, .ref (g 100), .int 0])), (h0, .inr (5, [.int 1, .ref (g 100), .int 0]))] s.heap.size) [(h0, .inr (5, [.int 1, .ref (g 100), .int 0])), (h1, .inr (5, [.int 0, .ref (g 100), .int 0])), (q_1, .inl (g 8, 0, .inr (.inr (.inr (.inr (fun _ => none))))))] := hD
  refine lv_astore_n (lv' := [(2, .ref q_1), (0, .ref h0), (1, .ref h1)]) hx hb dJx4a65c_addAll_f0b43_6 rfl hl (by decide) rfl (fun ls hl => ?_)
  refine lv_aload_n hx hb dJx4a65c_addAll_f0b43_7 rfl (lv_at hl 1 rfl) ?_
  refine lv_dup hx hb dJx4a65c_addAll_f0b43_8 rfl ?_
  refine va_get (D := D) (ci := 5) (v := .int 1) (C := RJx4a65c) (T := TJx4a65c) (N := 3) hx hb ht in_Jx4a65c hown hK.1 hP 0 rfl rfl 0 (by decide) (ht _ w_456) (u_same (ht _ w_314)) rfl dJx4a65c_addAll_f0b43_9 ?_
  refine lv_iconst (v := 1) hx hb dJx4a65c_addAll_f0b43_12 (by decide) ?_
  refine lv_iadd hx hb dJx4a65c_addAll_f0b43_13 ?_
  refine r_topi (v := 2) (by decide) ?_
  refine va_put (D := D) (ci := 5) (v := .int 2) (ty := .int) (C := RJx4a65c) (T := TJx4a65c) (N := 3) hx hb ht in_Jx4a65c tyJx4a65c tyJx4a65c_ok nmJx4a65c hown hK.1 hP hD hS 0 rfl rfl 0 (by decide) (ht _ w_456) (u_same (ht _ w_314)) rfl (by decide +kernel) rfl rfl (Nat.le_of_ble_eq_true rfl) dJx4a65c_addAll_f0b43_14 (fun H locs hP hD hS => ?_)
  have hP : va_P D vwCl [(h0, .inr (5, [.int 2, .ref (g 100), .int 0])), (h1, .inr (5, [.int 0, .ref (g 100), .int 0])), (q_1, .inl (g 8, 0, .inr (.inr (.inr (.inr (fun _ => none))))))] H := hP
  have hD : va_D (va_A [(h1, .inr (5, [.int 0, .ref (g 100), .int 0])), (h0, .inr (5, [.int 1, .ref (g 100), .int 0]))] s.heap.size) [(h0, .inr (5, [.int 2, .ref (g 100), .int 0])), (h1, .inr (5, [.int 0, .ref (g 100), .int 0])), (q_1, .inl (g 8, 0, .inr (.inr (.inr (.inr (fun _ => none))))))] := hD
  refine lv_aload_n hx hb dJx4a65c_addAll_f0b43_17 rfl (lv_at hl 0 rfl) ?_
  refine va_alen (v := 0) hx hb hK.1 hP 2 8 rfl rfl (show Int32.ofNat 0 = 0 by decide) dJx4a65c_addAll_f0b43_18 ?_
  refine lv_istore_n (lv' := [(3, .int 0), (2, .ref q_1), (0, .ref h0), (1, .ref h1)]) hx hb dJx4a65c_addAll_f0b43_19 rfl hl (by decide) rfl (fun ls hl => ?_)
  refine lv_iload_n hx hb dJx4a65c_addAll_f0b43_20 rfl (lv_at hl 0 rfl) ?_
  refine lv_if_ne (tgt := 26) hx hb dJx4a65c_addAll_f0b43_21 (by decide) (fun c_2 => ?_) (fun c_2 => ?_)
  · exact absurd c_2 (by decide)
  · refine lv_iconst (v := 0) hx hb dJx4a65c_addAll_f0b43_24 (by decide) ?_
    have hP9 := hP.sub (ws' := [(h0, .inr (5, [.int 2, .ref (g 100), .int 0])), (h1, .inr (5, [.int 0, .ref (g 100), .int 0]))]) [0, 1] rfl
    have hD9 := hD.sub (ws' := [(h0, .inr (5, [.int 2, .ref (g 100), .int 0])), (h1, .inr (5, [.int 0, .ref (g 100), .int 0]))]) [0, 1] (by decide) rfl
    refine W.widen (k := 1) (n := 0) (Nat.le_of_ble_eq_true rfl) (Nat.le_of_ble_eq_true rfl) ?_
    exact W.zret (v := 0) hx hb hr rfl (fun t ht9 hW9 => ⟨⟨0, (), rfl, ⟨rfl, trivial⟩, ⟨(by rw [ht9]; exact hP9), hD9⟩⟩, hS.F ht9⟩) hS.2.2 dJx4a65c_addAll_f0b43_25 hlocks
set_option maxHeartbeats 4000000 in
set_option maxRecDepth 100000 in
theorem k_Jx4a65c_size_8abf5_v2 (l : Launch) (D : va_G) (g : Nat → ClassId) (z0 sz : Nat) (a : Nat → Nat) (h0 : Nat) : Met l yJx4a65c_size_8abf5 (.code yJx4a65c_size_8abf5 cJx4a65c_size_8abf5 1 (some .int) :: TG) (rmk 0 0 0 0) (va_Pc [.ref h0] (PP D g z0 sz [(h0, .inr (5, [.int 2, .ref (g 100), .int 0]))])) (va_Qi (fun (r : Int32) (u : Unit) => (r = 0) ∧ True) (fun (_ : Unit) (_ : State) => True) (va_A [] sz)) 0 0 (va_A [] sz) := by
  refine met0 (cc := cJx4a65c_size_8abf5) (n := 1) (by decide) (Nat.le_of_ble_eq_true rfl) ?_
  intro p e s m args below meth c hx hb hr hml hown ht hlocks hnm hP0 hD0 hK hZ hsz hz ls hl
  subst hsz
  have hA : ∀ q : Nat, s.heap.size ≤ q → va_A [] s.heap.size q := Anw
  have hAz : ∀ q, va_A [] s.heap.size q → z0 ≤ q := A0z hz
  have hS : va_S (va_A [] s.heap.size) s.heap s.heap [] := va_S.rf
  have hl : lv_has ls 1 [(0, .ref h0)] := hl
  refine lv_aload_n hx hb dJx4a65c_size_8abf5_0 rfl (lv_at hl 0 rfl) ?_
  refine va_get (D := D) (ci := 5) (v := .int 0) (C := RJx4a65c) (T := TJx4a65c) (N := 3) hx hb ht in_Jx4a65c hown hK.1 (ro0 hP0 hS) 0 rfl rfl 2 (by decide) (ht _ w_355) (fun _ h9 => h9) rfl dJx4a65c_size_8abf5_1 ?_
  refine W.widen (k := 0) (n := 0) (Nat.le_of_ble_eq_true rfl) (Nat.le_of_ble_eq_true rfl) ?_
  exact W.iret (v := 0) hx hb hr (fun t ht9 hW9 => ⟨⟨0, (), rfl, ⟨rfl, trivial⟩, trivial⟩, hS.F ht9⟩) hS.2.2 dJx4a65c_size_8abf5_4 hlocks
set_option maxHeartbeats 4000000 in
set_option maxRecDepth 100000 in
theorem k_X15_mergeAll (l : Launch) (D : va_G) (g : Nat → ClassId) (z0 sz : Nat) (a : Nat → Nat) : Met l yX15_mergeAll (.code yX15_mergeAll cX15_mergeAll 7 (some .int) :: TG) (rmk 5 3 7 153) (va_Pc [.ref (a 200)] (PP D g z0 sz [((a 200), f_m a g), ((a 206), .inr (5, [.int 0, .ref (g 100), .int 0]))])) (va_Qi (fun (r : Int32) (u : Unit) => (r = 0) ∧ True) (fun (u : Unit) (t : State) => va_P D vwCl [((a 200), .inr (21, [.int 0, .ref (a 201), .ref (a 202), .ref (a 203), .ref (a 204), .ref (a 205), .ref (a 206), .int 0, .int 0, .int 0, .int 0, .ref (a 208), .ref (a 209), .ref (a 210), .ref (a 211), .ref (a 212), .int 4, .int 12, .int (-1), .int 0, .ref (g 200), .ref (a 213), .int 0, .int 97, .ref (a 214), .ref (a 215), .ref (a 207), .null, .int 0]))] t.heap ∧ va_D (va_A [((a 200), f_m a g), ((a 206), .inr (5, [.int 0, .ref (g 100), .int 0]))] sz) [((a 200), .inr (21, [.int 0, .ref (a 201), .ref (a 202), .ref (a 203), .ref (a 204), .ref (a 205), .ref (a 206), .int 0, .int 0, .int 0, .int 0, .ref (a 208), .ref (a 209), .ref (a 210), .ref (a 211), .ref (a 212), .int 4, .int 12, .int (-1), .int 0, .ref (g 200), .ref (a 213), .int 0, .int 97, .ref (a 214), .ref (a 215), .ref (a 207), .null, .int 0]))]) (va_A [((a 200), f_m a g), ((a 206), .inr (5, [.int 0, .ref (g 100), .int 0]))] sz)) 3 7 (va_A [((a 200), f_m a g), ((a 206), .inr (5, [.int 0, .ref (g 100), .int 0]))] sz) := by
  refine met0 (cc := cX15_mergeAll) (n := 7) (by decide) (Nat.le_of_ble_eq_true rfl) ?_
  intro p e s m args below meth c hx hb hr hml hown ht hlocks hnm hP0 hD0 hK hZ hsz hz ls hl
  subst hsz
  have hA : ∀ q : Nat, s.heap.size ≤ q → va_A [((a 200), f_m a g), ((a 206), .inr (5, [.int 0, .ref (g 100), .int 0]))] s.heap.size q := Anw
  have hAz : ∀ q, va_A [((a 200), f_m a g), ((a 206), .inr (5, [.int 0, .ref (g 100), .int 0]))] s.heap.size q → z0 ≤ q := Awz hz hD0
  have hS : va_S (va_A [((a 200), f_m a g), ((a 206), .inr (5, [.int 0, .ref (g 100), .int 0]))] s.heap.size) s.heap s.heap [] := va_S.rf
  have hD : va_D (va_A [((a 200), f_m a g), ((a 206), .inr (5, [.int 0, .ref (g 100), .int 0]))] s.heap.size) [((a 200), f_m a g), ((a 206), .inr (5, [.int 0, .ref (g 100), .int 0]))] := hD0.self
  have hP : va_P D vwCl [((a 200), f_m a g), ((a 206), .inr (5, [.int 0, .ref (g 100), .int 0]))] s.heap := hP0
  have hl : lv_has ls 7 [(0, .ref (a 200))] := hl
  refine lv_aload_n hx hb dX15_mergeAll_0 rfl (lv_at hl 0 rfl) ?_
  refine lv_iconst (v := 0) hx hb dX15_mergeAll_1 (by decide) ?_
  refine va_put (D := D) (ci := 21) (v := .int 0) (ty := .int) (C := RX15) (T := TX15) (N := 29) hx hb ht in_X15 tyX15 tyX15_ok nmX15 hown hK.1 hP hD hS 0 rfl rfl 0 (by decide) (ht _ w_303) (fun _ h9 => h9) rfl (by decide +kernel) rfl rfl (Nat.le_of_ble_eq_true rfl) dX15_mergeAll_2 (fun H locs hP hD hS => ?_)
  have hP : va_P D vwCl [((a 200), .inr (21, [.int 0, .ref (a 201), .ref (a 202), .ref (a 203), .ref (a 204), .ref (a 205), .ref (a 206), .int 0, .int 0, .int 0, .int 0, .ref (a 208), .ref (a 209), .ref (a 210), .ref (a 211), .ref (a 212), .int 4, .int 12, .int (-1), .int 0, .ref (g 200), .ref (a 213), .int 0, .int 97, .ref (a 214), .ref (a 215), .ref (a 207), .null, .int 0])), ((a 206), .inr (5, [.int 0, .ref (g 100), .int 0]))] H := hP
  have hD : va_D (va_A [((a 200), f_m a g), ((a 206), .inr (5, [.int 0, .ref (g 100), .int 0]))] s.heap.size) [((a 200), .inr (21, [.int 0, .ref (a 201), .ref (a 202), .ref (a 203), .ref (a 204), .ref (a 205), .ref (a 206), .int 0, .int 0, .int 0, .int 0, .ref (a 208), .ref (a 209), .ref (a 210), .ref (a 211), .ref (a 212), .int 4, .int 12, .int (-1), .int 0, .ref (g 200), .ref (a 213), .int 0, .int 97, .ref (a 214), .ref (a 215), .ref (a 207), .null, .int 0])), ((a 206), .inr (5, [.int 0, .ref (g 100), .int 0]))] := hD
  refine va_new (ci := 5) (fs := [.int 0, .null, .int 0]) (C := RJx4a65c) (T := TJx4a65c) (N := 3) hx hb ht in_Jx4a65c tyJx4a65c tyJx4a65c_ok hown (ht _ w_335) (ht _ w_336) (ht _ w_323) hK.1 hP hD hS hA rfl (fun j hj => by rcases (show j = 0 ∨ j = 1 ∨ j = 2 by omega) with rfl | rfl | rfl <;> rfl) (Nat.le_of_ble_eq_true rfl) (Nat.le_of_ble_eq_true rfl) dX15_mergeAll_5 (fun q_1 H hP hD hS => ?_)
  have hP : va_P D vwCl [((a 200), .inr (21, [.int 0, .ref (a 201), .ref (a 202), .ref (a 203), .ref (a 204), .ref (a 205), .ref (a 206), .int 0, .int 0, .int 0, .int 0, .ref (a 208), .ref (a 209), .ref (a 210), .ref (a 211), .ref (a 212), .int 4, .int 12, .int (-1), .int 0, .ref (g 200), .ref (a 213), .int 0, .int 97, .ref (a 214), .ref (a 215), .ref (a 207), .null, .int 0])), ((a 206), .inr (5, [.int 0, .ref (g 100), .int 0])), (q_1, .inr (5, [.int 0, .null, .int 0]))] H := hP
  have hD : va_D (va_A [((a 200), f_m a g), ((a 206), .inr (5, [.int 0, .ref (g 100), .int 0]))] s.heap.size) [((a 200), .inr (21, [.int 0, .ref (a 201), .ref (a 202), .ref (a 203), .ref (a 204), .ref (a 205), .ref (a 206), .int 0, .int 0, .int 0, .int 0, .ref (a 208), .ref (a 209), .ref (a 210), .ref (a 211), .ref (a 212), .int 4, .int 12, .int (-1), .int 0, .ref (g 200), .ref (a 213), .int 0, .int 97, .ref (a 214), .ref (a 215), .ref (a 207), .null, .int 0])), ((a 206), .inr (5, [.int 0, .ref (g 100), .int 0])), (q_1, .inr (5, [.int 0, .null, .int 0]))] := hD
  refine lv_dup hx hb dX15_mergeAll_8 rfl ?_
  have hPc : va_P D vwCl [(q_1, .inr (5, [.int 0, .null, .int 0]))] _ := hP.sub (ws' := [(q_1, .inr (5, [.int 0, .null, .int 0]))]) [2] rfl
  have hDc : va_D (fun q => z0 ≤ q) [(q_1, .inr (5, [.int 0, .null, .int 0]))] := (hD.to hAz).pick (ws' := [(q_1, .inr (5, [.int 0, .null, .int 0]))]) [2] (by decide) rfl
  have hFc := va_free (wc := [(q_1, .inr (5, [.int 0, .null, .int 0]))]) hD hS hA [2] rfl
  refine va_callv (va_runI (As := []) (rest := [.ref q_1]) ⟨hx, hb, hml, hown, ht⟩ (k_Jx4a65c_init_da8c8 l D g z0 _ a q_1) (cwI 0 ht (gI w_350) rfl rfl rfl (ht _ w_323) (ht _ w_349) (ht _ w_351) rfl (by decide +kernel) (le2 rfl rfl)) ⟨PP.blind, PP.mk' hK hZ hz hAz hS hPc hDc⟩ rfl rfl hl.1 rfl (lv_room (Nat.le_of_ble_eq_true rfl)) dX15_mergeAll_9 (le2 rfl rfl)) hS (fun q _ h => hFc q h) hFc (fun u t H locs ht1 hvm hw hB hz1 hk1 hS => ?_)
  obtain ⟨hP1, hD1⟩ := hB
  rw [ht1] at hP1
  obtain ⟨hP, hD⟩ := va_join (wr := [((a 200), .inr (21, [.int 0, .ref (a 201), .ref (a 202), .ref (a 203), .ref (a 204), .ref (a 205), .ref (a 206), .int 0, .int 0, .int 0, .int 0, .ref (a 208), .ref (a 209), .ref (a 210), .ref (a 211), .ref (a 212), .int 4, .int 12, .int (-1), .int 0, .ref (g 200), .ref (a 213), .int 0, .int 97, .ref (a 214), .ref (a 215), .ref (a 207), .null, .int 0])), ((a 206), .inr (5, [.int 0, .ref (g 100), .int 0]))]) (w1 := [(q_1, .inr (5, [.int 0, .ref (g 100), .int 0]))]) hP hD [2] [0, 1] rfl rfl (by decide) (by decide) hk1 hFc hP1 hD1
  have hP : va_P D vwCl [((a 200), .inr (21, [.int 0, .ref (a 201), .ref (a 202), .ref (a 203), .ref (a 204), .ref (a 205), .ref (a 206), .int 0, .int 0, .int 0, .int 0, .ref (a 208), .ref (a 209), .ref (a 210), .ref (a 211), .ref (a 212), .int 4, .int 12, .int (-1), .int 0, .ref (g 200), .ref (a 213), .int 0, .int 97, .ref (a 214), .ref (a 215), .ref (a 207), .null, .int 0])), ((a 206), .inr (5, [.int 0, .ref (g 100), .int 0])), (q_1, .inr (5, [.int 0, .ref (g 100), .int 0]))] H := hP
  have hD : va_D (va_A [((a 200), f_m a g), ((a 206), .inr (5, [.int 0, .ref (g 100), .int 0]))] s.heap.size) [((a 200), .inr (21, [.int 0, .ref (a 201), .ref (a 202), .ref (a 203), .ref (a 204), .ref (a 205), .ref (a 206), .int 0, .int 0, .int 0, .int 0, .ref (a 208), .ref (a 209), .ref (a 210), .ref (a 211), .ref (a 212), .int 4, .int 12, .int (-1), .int 0, .ref (g 200), .ref (a 213), .int 0, .int 97, .ref (a 214), .ref (a 215), .ref (a 207), .null, .int 0])), ((a 206), .inr (5, [.int 0, .ref (g 100), .int 0])), (q_1, .inr (5, [.int 0, .ref (g 100), .int 0]))] := hD
  refine lv_astore_n (lv' := [(1, .ref q_1), (0, .ref (a 200))]) hx hb dX15_mergeAll_12 rfl hl (by decide) rfl (fun ls hl => ?_)
  refine lv_aload_n hx hb dX15_mergeAll_13 rfl (lv_at hl 1 rfl) ?_
  refine va_get (D := D) (ci := 21) (v := .ref (a 206)) (C := RX15) (T := TX15) (N := 29) hx hb ht in_X15 hown hK.1 hP 0 rfl rfl 6 (by decide) (ht _ w_304) (fun _ h9 => h9) rfl dX15_mergeAll_14 ?_
  have hPc : va_P D vwCl [((a 206), .inr (5, [.int 0, .ref (g 100), .int 0]))] _ := hP.sub (ws' := [((a 206), .inr (5, [.int 0, .ref (g 100), .int 0]))]) [1] rfl
  have hDc : va_D (fun q => z0 ≤ q) [((a 206), .inr (5, [.int 0, .ref (g 100), .int 0]))] := (hD.to hAz).pick (ws' := [((a 206), .inr (5, [.int 0, .ref (g 100), .int 0]))]) [1] (by decide) rfl
  have hFc := va_free (wc := [((a 206), .inr (5, [.int 0, .ref (g 100), .int 0]))]) hD hS hA [1] rfl
  refine va_callFr (va_runF (As := []) (rest := []) (hK.1.1 5 _ rfl).2 ⟨hx, hb, hml, hown, ht⟩ (k_Jx4a65c_iterator_32c93 l D g z0 _ a (a 206)) (va_cwF 0 ht (gF w_319 w_321 w_322 w_323 w_320) rfl rfl rfl (hK.2.2.2.1 _ (List.mem_of_getElem? (i := 3) rfl)) (by decide +kernel) (le2 rfl rfl)) ⟨PP.blind, va_recv hK.1 hP (ci := 5) (q0 := 1) rfl rfl, PP.mk' hK hZ hz hAz hS hPc hDc⟩ rfl rfl hl.1 rfl (lv_room (Nat.le_of_ble_eq_true rfl)) dX15_mergeAll_17 (le2 rfl rfl)) hS (fun q _ h => hFc q h) hFc (fun u ra t H locs ht1 hvm hw hB hz1 hk1 hS => ?_)
  obtain ⟨q_2, hr9, hP1, hD1⟩ := hB
  rw [ht1] at hP1
  obtain ⟨hP, hD⟩ := va_join (wr := [((a 200), .inr (21, [.int 0, .ref (a 201), .ref (a 202), .ref (a 203), .ref (a 204), .ref (a 205), .ref (a 206), .int 0, .int 0, .int 0, .int 0, .ref (a 208), .ref (a 209), .ref (a 210), .ref (a 211), .ref (a 212), .int 4, .int 12, .int (-1), .int 0, .ref (g 200), .ref (a 213), .int 0, .int 97, .ref (a 214), .ref (a 215), .ref (a 207), .null, .int 0])), (q_1, .inr (5, [.int 0, .ref (g 100), .int 0]))]) (w1 := [(q_2, .inr (4, [.int 0, .int (-1), .int 0, .ref (a 206)])), ((a 206), .inr (5, [.int 0, .ref (g 100), .int 0]))]) hP hD [1] [0, 2] rfl rfl (by decide) (by decide) hk1 hFc hP1 hD1
  subst hr9
  have hP : va_P D vwCl [((a 200), .inr (21, [.int 0, .ref (a 201), .ref (a 202), .ref (a 203), .ref (a 204), .ref (a 205), .ref (a 206), .int 0, .int 0, .int 0, .int 0, .ref (a 208), .ref (a 209), .ref (a 210), .ref (a 211), .ref (a 212), .int 4, .int 12, .int (-1), .int 0, .ref (g 200), .ref (a 213), .int 0, .int 97, .ref (a 214), .ref (a 215), .ref (a 207), .null, .int 0])), (q_1, .inr (5, [.int 0, .ref (g 100), .int 0])), (q_2, .inr (4, [.int 0, .int (-1), .int 0, .ref (a 206)])), ((a 206), .inr (5, [.int 0, .ref (g 100), .int 0]))] H := hP
  have hD : va_D (va_A [((a 200), f_m a g), ((a 206), .inr (5, [.int 0, .ref (g 100), .int 0]))] s.heap.size) [((a 200), .inr (21, [.int 0, .ref (a 201), .ref (a 202), .ref (a 203), .ref (a 204), .ref (a 205), .ref (a 206), .int 0, .int 0, .int 0, .int 0, .ref (a 208), .ref (a 209), .ref (a 210), .ref (a 211), .ref (a 212), .int 4, .int 12, .int (-1), .int 0, .ref (g 200), .ref (a 213), .int 0, .int 97, .ref (a 214), .ref (a 215), .ref (a 207), .null, .int 0])), (q_1, .inr (5, [.int 0, .ref (g 100), .int 0])), (q_2, .inr (4, [.int 0, .int (-1), .int 0, .ref (a 206)])), ((a 206), .inr (5, [.int 0, .ref (g 100), .int 0]))] := hD
  refine lv_astore_n (lv' := [(2, .ref q_2), (1, .ref q_1), (0, .ref (a 200))]) hx hb dX15_mergeAll_22 rfl hl (by decide) rfl (fun ls hl => ?_)
  refine lv_aload_n hx hb dX15_mergeAll_23 rfl (lv_at hl 0 rfl) ?_
  have hPc : va_P D vwCl [(q_2, .inr (4, [.int 0, .int (-1), .int 0, .ref (a 206)])), ((a 206), .inr (5, [.int 0, .ref (g 100), .int 0]))] _ := hP.sub (ws' := [(q_2, .inr (4, [.int 0, .int (-1), .int 0, .ref (a 206)])), ((a 206), .inr (5, [.int 0, .ref (g 100), .int 0]))]) [2, 3] rfl
  have hDc : va_D (fun q => z0 ≤ q) [(q_2, .inr (4, [.int 0, .int (-1), .int 0, .ref (a 206)])), ((a 206), .inr (5, [.int 0, .ref (g 100), .int 0]))] := (hD.to hAz).pick (ws' := [(q_2, .inr (4, [.int 0, .int (-1), .int 0, .ref (a 206)])), ((a 206), .inr (5, [.int 0, .ref (g 100), .int 0]))]) [2, 3] (by decide) rfl
  have hFc := AnA (ws := [((a 200), f_m a g), ((a 206), .inr (5, [.int 0, .ref (g 100), .int 0]))]) hS.1
  refine va_callFi (va_runF (As := []) (rest := []) (hK.1.1 4 _ rfl).2 ⟨hx, hb, hml, hown, ht⟩ (k_Jx35411_hasNext_aae02 l D g z0 _ a q_2 (a 206)) (va_cwF 0 ht (gF w_326 w_328 w_329 w_307 w_327) rfl rfl rfl (hK.2.2.2.1 _ (List.mem_of_getElem? (i := 4) rfl)) (by decide +kernel) (le2 rfl rfl)) ⟨PP.blind, va_recv hK.1 hP (ci := 4) (q0 := 2) rfl rfl, PP.mk' hK hZ hz hAz hS hPc hDc⟩ rfl rfl hl.1 rfl (lv_room (Nat.le_of_ble_eq_true rfl)) dX15_mergeAll_24 (le2 rfl rfl)) hS (fun q _ h => hFc q h) hFc (fun r u t H locs ht1 hvm hw hB hz1 hk1 hS => ?_)
  obtain ⟨rfl, hw⟩ := hw
  have hP := ro1 hP hk1
  refine lv_if_eq (tgt := 126) hx hb dX15_mergeAll_29 (by decide) (fun c_3 => ?_) (fun c_3 => ?_)
  · refine lv_aload_n hx hb dX15_mergeAll_126 rfl (lv_at hl 2 rfl) ?_
    refine va_get (D := D) (ci := 21) (v := .ref (a 206)) (C := RX15) (T := TX15) (N := 29) hx hb ht in_X15 hown hK.1 hP 0 rfl rfl 6 (by decide) (ht _ w_304) (fun _ h9 => h9) rfl dX15_mergeAll_127 ?_
    have hPc : va_P D vwCl [((a 206), .inr (5, [.int 0, .ref (g 100), .int 0]))] _ := hP.sub (ws' := [((a 206), .inr (5, [.int 0, .ref (g 100), .int 0]))]) [3] rfl
    have hDc : va_D (fun q => z0 ≤ q) [((a 206), .inr (5, [.int 0, .ref (g 100), .int 0]))] := (hD.to hAz).pick (ws' := [((a 206), .inr (5, [.int 0, .ref (g 100), .int 0]))]) [3] (by decide) rfl
    have hFc := va_free (wc := [((a 206), .inr (5, [.int 0, .ref (g 100), .int 0]))]) hD hS hA [3] rfl
    refine va_callFv (va_runF (As := []) (rest := []) (hK.1.1 5 _ rfl).2 ⟨hx, hb, hml, hown, ht⟩ (k_Jx4a65c_clear_da8c8 l D g z0 _ a (a 206)) (va_cwF 0 ht (gF w_519 w_521 w_522 w_323 w_520) rfl rfl rfl (hK.2.2.2.1 _ (List.mem_of_getElem? (i := 8) rfl)) (by decide +kernel) (le2 rfl rfl)) ⟨PP.blind, va_recv hK.1 hP (ci := 5) (q0 := 3) rfl rfl, PP.mk' hK hZ hz hAz hS hPc hDc⟩ rfl rfl hl.1 rfl (lv_room (Nat.le_of_ble_eq_true rfl)) dX15_mergeAll_130 (le2 rfl rfl)) hS (fun q _ h => hFc q h) hFc (fun u t H locs ht1 hvm hw hB hz1 hk1 hS => ?_)
    obtain ⟨hP1, hD1⟩ := hB
    rw [ht1] at hP1
    obtain ⟨hP, hD⟩ := va_join (wr := [((a 200), .inr (21, [.int 0, .ref (a 201), .ref (a 202), .ref (a 203), .ref (a 204), .ref (a 205), .ref (a 206), .int 0, .int 0, .int 0, .int 0, .ref (a 208), .ref (a 209), .ref (a 210), .ref (a 211), .ref (a 212), .int 4, .int 12, .int (-1), .int 0, .ref (g 200), .ref (a 213), .int 0, .int 97, .ref (a 214), .ref (a 215), .ref (a 207), .null, .int 0])), (q_1, .inr (5, [.int 0, .ref (g 100), .int 0])), (q_2, .inr (4, [.int 0, .int (-1), .int 0, .ref (a 206)]))]) (w1 := [((a 206), .inr (5, [.int 1, .ref (g 100), .int 0]))]) hP hD [3] [0, 1, 2] rfl rfl (by decide) (by decide) hk1 hFc hP1 hD1
    have hP : va_P D vwCl [((a 200), .inr (21, [.int 0, .ref (a 201), .ref (a 202), .ref (a 203), .ref (a 204), .ref (a 205), .ref (a 206), .int 0, .int 0, .int 0, .int 0, .ref (a 208), .ref (a 209), .ref (a 210), .ref (a 211), .ref (a 212), .int 4, .int 12, .int (-1), .int 0, .ref (g 200), .ref (a 213), .int 0, .int 97, .ref (a 214), .ref (a 215), .ref (a 207), .null, .int 0])), (q_1, .inr (5, [.int 0, .ref (g 100), .int 0])), (q_2, .inr (4, [.int 0, .int (-1), .int 0, .ref (a 206)])), ((a 206), .inr (5, [.int 1, .ref (g 100), .int 0]))] H := hP
    have hD : va_D (va_A [((a 200), f_m a g), ((a 206), .inr (5, [.int 0, .ref (g 100), .int 0]))] s.heap.size) [((a 200), .inr (21, [.int 0, .ref (a 201), .ref (a 202), .ref (a 203), .ref (a 204), .ref (a 205), .ref (a 206), .int 0, .int 0, .int 0, .int 0, .ref (a 208), .ref (a 209), .ref (a 210), .ref (a 211), .ref (a 212), .int 4, .int 12, .int (-1), .int 0, .ref (g 200), .ref (a 213), .int 0, .int 97, .ref (a 214), .ref (a 215), .ref (a 207), .null, .int 0])), (q_1, .inr (5, [.int 0, .ref (g 100), .int 0])), (q_2, .inr (4, [.int 0, .int (-1), .int 0, .ref (a 206)])), ((a 206), .inr (5, [.int 1, .ref (g 100), .int 0]))] := hD
    refine lv_aload_n hx hb dX15_mergeAll_135 rfl (lv_at hl 2 rfl) ?_
    refine va_get (D := D) (ci := 21) (v := .ref (a 206)) (C := RX15) (T := TX15) (N := 29) hx hb ht in_X15 hown hK.1 hP 0 rfl rfl 6 (by decide) (ht _ w_304) (fun _ h9 => h9) rfl dX15_mergeAll_136 ?_
    refine lv_aload_n hx hb dX15_mergeAll_139 rfl (lv_at hl 1 rfl) ?_
    have hPc : va_P D vwCl [(q_1, .inr (5, [.int 0, .ref (g 100), .int 0])), ((a 206), .inr (5, [.int 1, .ref (g 100), .int 0]))] _ := hP.sub (ws' := [(q_1, .inr (5, [.int 0, .ref (g 100), .int 0])), ((a 206), .inr (5, [.int 1, .ref (g 100), .int 0]))]) [1, 3] rfl
    have hDc : va_D (fun q => z0 ≤ q) [(q_1, .inr (5, [.int 0, .ref (g 100), .int 0])), ((a 206), .inr (5, [.int 1, .ref (g 100), .int 0]))] := (hD.to hAz).pick (ws' := [(q_1, .inr (5, [.int 0, .ref (g 100), .int 0])), ((a 206), .inr (5, [.int 1, .ref (g 100), .int 0]))]) [1, 3] (by decide) rfl
    have hFc := va_free (wc := [(q_1, .inr (5, [.int 0, .ref (g 100), .int 0])), ((a 206), .inr (5, [.int 1, .ref (g 100), .int 0]))]) hD hS hA [1, 3] rfl
    refine va_callFi (va_runF (As := [.ref q_1]) (rest := []) (hK.1.1 5 _ rfl).2 ⟨hx, hb, hml, hown, ht⟩ (k_Jx4a65c_addAll_f0b43 l D g z0 _ a (a 206) q_1) (va_cwF 1 ht (gF w_1420 w_1422 w_1423 w_323 w_1421) rfl rfl rfl (hK.2.2.2.1 _ (List.mem_of_getElem? (i := 9) rfl)) (by decide +kernel) (le2 rfl rfl)) ⟨PP.blind, va_recv hK.1 hP (ci := 5) (q0 := 3) rfl rfl, PP.mk' hK hZ hz hAz hS hPc hDc⟩ rfl rfl hl.1 rfl (lv_room (Nat.le_of_ble_eq_true rfl)) dX15_mergeAll_140 (le2 rfl rfl)) hS (fun q _ h => hFc q h) hFc (fun r u t H locs ht1 hvm hw hB hz1 hk1 hS => ?_)
    obtain ⟨rfl, hw⟩ := hw
    obtain ⟨hP1, hD1⟩ := hB
    rw [ht1] at hP1
    obtain ⟨hP, hD⟩ := va_join (wr := [((a 200), .inr (21, [.int 0, .ref (a 201), .ref (a 202), .ref (a 203), .ref (a 204), .ref (a 205), .ref (a 206), .int 0, .int 0, .int 0, .int 0, .ref (a 208), .ref (a 209), .ref (a 210), .ref (a 211), .ref (a 212), .int 4, .int 12, .int (-1), .int 0, .ref (g 200), .ref (a 213), .int 0, .int 97, .ref (a 214), .ref (a 215), .ref (a 207), .null, .int 0])), (q_2, .inr (4, [.int 0, .int (-1), .int 0, .ref (a 206)]))]) (w1 := [((a 206), .inr (5, [.int 2, .ref (g 100), .int 0])), (q_1, .inr (5, [.int 0, .ref (g 100), .int 0]))]) hP hD [1, 3] [0, 2] rfl rfl (by decide) (by decide) hk1 hFc hP1 hD1
    have hP : va_P D vwCl [((a 200), .inr (21, [.int 0, .ref (a 201), .ref (a 202), .ref (a 203), .ref (a 204), .ref (a 205), .ref (a 206), .int 0, .int 0, .int 0, .int 0, .ref (a 208), .ref (a 209), .ref (a 210), .ref (a 211), .ref (a 212), .int 4, .int 12, .int (-1), .int 0, .ref (g 200), .ref (a 213), .int 0, .int 97, .ref (a 214), .ref (a 215), .ref (a 207), .null, .int 0])), (q_2, .inr (4, [.int 0, .int (-1), .int 0, .ref (a 206)])), ((a 206), .inr (5, [.int 2, .ref (g 100), .int 0])), (q_1, .inr (5, [.int 0, .ref (g 100), .int 0]))] H := hP
    have hD : va_D (va_A [((a 200), f_m a g), ((a 206), .inr (5, [.int 0, .ref (g 100), .int 0]))] s.heap.size) [((a 200), .inr (21, [.int 0, .ref (a 201), .ref (a 202), .ref (a 203), .ref (a 204), .ref (a 205), .ref (a 206), .int 0, .int 0, .int 0, .int 0, .ref (a 208), .ref (a 209), .ref (a 210), .ref (a 211), .ref (a 212), .int 4, .int 12, .int (-1), .int 0, .ref (g 200), .ref (a 213), .int 0, .int 97, .ref (a 214), .ref (a 215), .ref (a 207), .null, .int 0])), (q_2, .inr (4, [.int 0, .int (-1), .int 0, .ref (a 206)])), ((a 206), .inr (5, [.int 2, .ref (g 100), .int 0])), (q_1, .inr (5, [.int 0, .ref (g 100), .int 0]))] := hD
    refine lv_pop hx hb dX15_mergeAll_145 rfl ?_
    refine lv_aload_n hx hb dX15_mergeAll_146 rfl (lv_at hl 2 rfl) ?_
    refine va_get (D := D) (ci := 21) (v := .ref (a 206)) (C := RX15) (T := TX15) (N := 29) hx hb ht in_X15 hown hK.1 hP 0 rfl rfl 6 (by decide) (ht _ w_304) (fun _ h9 => h9) rfl dX15_mergeAll_147 ?_
    have hPc : va_P D vwCl [((a 206), .inr (5, [.int 2, .ref (g 100), .int 0]))] _ := hP.sub (ws' := [((a 206), .inr (5, [.int 2, .ref (g 100), .int 0]))]) [2] rfl
    have hDc : va_D (fun q => z0 ≤ q) [((a 206), .inr (5, [.int 2, .ref (g 100), .int 0]))] := (hD.to hAz).pick (ws' := [((a 206), .inr (5, [.int 2, .ref (g 100), .int 0]))]) [2] (by decide) rfl
    have hFc := AnA (ws := [((a 200), f_m a g), ((a 206), .inr (5, [.int 0, .ref (g 100), .int 0]))]) hS.1
    refine va_callFi (va_runF (As := []) (rest := []) (hK.1.1 5 _ rfl).2 ⟨hx, hb, hml, hown, ht⟩ (k_Jx4a65c_size_8abf5_v2 l D g z0 _ a (a 206)) (va_cwF 0 ht (gF w_356 w_358 w_359 w_323 w_357) rfl rfl rfl (hK.2.2.2.1 _ (List.mem_of_getElem? (i := 0) rfl)) (by decide +kernel) (le2 rfl rfl)) ⟨PP.blind, va_recv hK.1 hP (ci := 5) (q0 := 2) rfl rfl, PP.mk' hK hZ hz hAz hS hPc hDc⟩ rfl rfl hl.1 rfl (lv_room (Nat.le_of_ble_eq_true rfl)) dX15_mergeAll_150 (le2 rfl rfl)) hS (fun q _ h => hFc q h) hFc (fun r u t H locs ht1 hvm hw hB hz1 hk1 hS => ?_)
    obtain ⟨rfl, hw⟩ := hw
    have hP := ro1 hP hk1
    have hP9 := hP.sub (ws' := [((a 200), .inr (21, [.int 0, .ref (a 201), .ref (a 202), .ref (a 203), .ref (a 204), .ref (a 205), .ref (a 206), .int 0, .int 0, .int 0, .int 0, .ref (a 208), .ref (a 209), .ref (a 210), .ref (a 211), .ref (a 212), .int 4, .int 12, .int (-1), .int 0, .ref (g 200), .ref (a 213), .int 0, .int 97, .ref (a 214), .ref (a 215), .ref (a 207), .null, .int 0]))]) [0] rfl
    have hD9 := hD.sub (ws' := [((a 200), .inr (21, [.int 0, .ref (a 201), .ref (a 202), .ref (a 203), .ref (a 204), .ref (a 205), .ref (a 206), .int 0, .int 0, .int 0, .int 0, .ref (a 208), .ref (a 209), .ref (a 210), .ref (a 211), .ref (a 212), .int 4, .int 12, .int (-1), .int 0, .ref (g 200), .ref (a 213), .int 0, .int 97, .ref (a 214), .ref (a 215), .ref (a 207), .null, .int 0]))]) [0] (by decide) rfl
    refine W.widen (k := 3) (n := 7) (Nat.le_of_ble_eq_true rfl) (Nat.le_of_ble_eq_true rfl) ?_
    exact W.iret (v := 0) hx hb hr (fun t ht9 hW9 => ⟨⟨0, (), rfl, ⟨rfl, trivial⟩, ⟨(by rw [ht9]; exact hP9), hD9⟩⟩, hS.F ht9⟩) hS.2.2 dX15_mergeAll_155 hlocks
  · exact absurd c_3 (by decide)
set_option maxHeartbeats 4000000 in
set_option maxRecDepth 100000 in
theorem lw_case_24 {p : Program} {l : Launch} {e : Env} {s : State} {m : MethodId} {below : List Frame} {meth : Method} {c : Code} {H : Heap} {locs : List Loc} {ls : Array Slot} {Q : State → Prop} {D : va_G} {g : Nat → ClassId} {z0 b : Nat} {xs : Nat → Int32} {a : Nat → Nat} {o1 o2 : Nat} (hfl : l.stackTraces = false) (hx : p.tables.exec = Jvm.exec) (hb : c.code = cL_law) (hml : c.maxLocals = 9) (hown : s.vm.findClass RL = some m.cls) (ht : ∀ w ∈ TG, w.before #[Value.ref b] s = true) (hX : va_X b 6 xs s s.heap) (hbl : b < s.heap.size) (hbA : ¬ va_A [] s.heap.size b) (hK : KK D g s) (hZ : ZZ g z0 s) (hz : z0 ≤ s.heap.size) (hAz : ∀ q, va_A [] s.heap.size q → z0 ≤ q) (hP : va_P D vwCl (lwW a g o1 o2) H) (hD : va_D (va_A [] s.heap.size) (lwW a g o1 o2)) (hS : va_S (va_A [] s.heap.size) s.heap H locs) (hl : lv_has ls 9 [(0, .ref b), (1, .ref (a 0)), (2, .ref (a 200)), (3, .ref o1), (4, .ref o2), (5, .int 0)])
    (kk : ∀ (H : Heap) (locs : List Loc) (ls : Array Slot), va_S (va_A [] s.heap.size) s.heap H locs → lv_has ls 9 [(5, .int 0), (0, .ref b)] → W p l e room_1 s m #[Value.ref b] below meth c H locs (200 + 300) (8000 + 2000) Q (F0 m 4264 ls [])) :
    W p l e room_1 s m #[Value.ref b] below meth c H locs 200 8000 Q (F0 m 1784 ls []) := by
  have hA : ∀ q : Nat, s.heap.size ≤ q → va_A [] s.heap.size q := Anw
  have hP := hP.sub (ws' := [((a 0), f_x a), ((a 3), f_rows a), ((a 200), f_m a g), ((a 206), .inr (5, [.int 0, .ref (g 100), .int 0]))]) [0, 7, 26, 32] rfl
  have hD := hD.sub (ws' := [((a 0), f_x a), ((a 3), f_rows a), ((a 200), f_m a g), ((a 206), .inr (5, [.int 0, .ref (g 100), .int 0]))]) [0, 7, 26, 32] (by decide) rfl
  refine lv_aload_n hx hb dL_law_1784 rfl (lv_at hl 1 rfl) ?_
  have hPc : va_P D vwCl [((a 0), f_x a), ((a 3), f_rows a)] _ := hP.sub (ws' := [((a 0), f_x a), ((a 3), f_rows a)]) [0, 1] rfl
  have hDc : va_D (fun q => z0 ≤ q) [((a 0), f_x a), ((a 3), f_rows a)] := (hD.to hAz).pick (ws' := [((a 0), f_x a), ((a 3), f_rows a)]) [0, 1] (by decide) rfl
  have hFc := va_free (wc := [((a 0), f_x a), ((a 3), f_rows a)]) hD hS hA [0, 1] rfl
  refine va_calli (va_runV (As := []) (rest := []) ⟨hx, hb, hml, hown, ht⟩ (k_X11_mergeAll l D g z0 _ a) (cwV 0 ht (gV w_1424 w_1426 w_1427 w_31 w_1425) rfl rfl rfl (by decide +kernel) (le2 rfl rfl)) ⟨PP.blind, va_recv hK.1 hP (ci := 17) (q0 := 0) rfl rfl, PP.mk' hK hZ hz hAz hS hPc hDc⟩ rfl rfl hl.1 rfl (lv_room (Nat.le_of_ble_eq_true rfl)) dL_law_1785 (le2 rfl rfl)) hS (fun q _ h => hFc q h) hFc (fun r u t H locs ht1 hvm hw hB hz1 hk1 hS => ?_)
  obtain ⟨rfl, hw⟩ := hw
  obtain ⟨hP1, hD1⟩ := hB
  rw [ht1] at hP1
  obtain ⟨hP, hD⟩ := va_join (wr := [((a 200), f_m a g), ((a 206), .inr (5, [.int 0, .ref (g 100), .int 0]))]) (w1 := []) hP hD [0, 1] [2, 3] rfl rfl (by decide) (by decide) hk1 hFc hP1 hD1
  have hP : va_P D vwCl [((a 200), f_m a g), ((a 206), .inr (5, [.int 0, .ref (g 100), .int 0]))] H := hP
  have hD : va_D (va_A [] s.heap.size) [((a 200), f_m a g), ((a 206), .inr (5, [.int 0, .ref (g 100), .int 0]))] := hD
  refine lv_aload_n hx hb dL_law_1788 rfl (lv_at hl 2 rfl) ?_
  have hPc : va_P D vwCl [((a 200), f_m a g), ((a 206), .inr (5, [.int 0, .ref (g 100), .int 0]))] _ := hP.sub (ws' := [((a 200), f_m a g), ((a 206), .inr (5, [.int 0, .ref (g 100), .int 0]))]) [0, 1] rfl
  have hDc : va_D (fun q => z0 ≤ q) [((a 200), f_m a g), ((a 206), .inr (5, [.int 0, .ref (g 100), .int 0]))] := (hD.to hAz).pick (ws' := [((a 200), f_m a g), ((a 206), .inr (5, [.int 0, .ref (g 100), .int 0]))]) [0, 1] (by decide) rfl
  have hFc := va_free (wc := [((a 200), f_m a g), ((a 206), .inr (5, [.int 0, .ref (g 100), .int 0]))]) hD hS hA [0, 1] rfl
  refine va_calli (va_runV (As := []) (rest := [.int 0]) ⟨hx, hb, hml, hown, ht⟩ (k_X15_mergeAll l D g z0 _ a) (cwV 0 ht (gV w_1428 w_1430 w_1431 w_334 w_1429) rfl rfl rfl (by decide +kernel) (le2 rfl rfl)) ⟨PP.blind, va_recv hK.1 hP (ci := 21) (q0 := 0) rfl rfl, PP.mk' hK hZ hz hAz hS hPc hDc⟩ rfl rfl hl.1 rfl (lv_room (Nat.le_of_ble_eq_true rfl)) dL_law_1789 (le2 rfl rfl)) hS (fun q _ h => hFc q h) hFc (fun r u t H locs ht1 hvm hw hB hz1 hk1 hS => ?_)
  obtain ⟨rfl, hw⟩ := hw
  obtain ⟨hP1, hD1⟩ := hB
  rw [ht1] at hP1
  obtain ⟨hP, hD⟩ := va_join (wr := []) (w1 := [((a 200), f_m a g)]) hP hD [0, 1] [] rfl rfl (by decide) (by decide) hk1 hFc hP1 hD1
  have hP : va_P D vwCl [((a 200), f_m a g)] H := hP
  have hD : va_D (va_A [] s.heap.size) [((a 200), f_m a g)] := hD
  refine lv_icmp_eq (tgt := 4264) hx hb dL_law_1792 (by decide) (fun c_1 => ?_) (fun c_1 => ?_)
  · refine W.widen (k := 200 + 300) (n := 8000 + 2000) (Nat.le_of_ble_eq_true rfl) (Nat.le_of_ble_eq_true rfl) ?_
    exact kk _ _ _ hS (lv_sub hl [5, 0] rfl)
  · exact absurd c_1 (by decide)
