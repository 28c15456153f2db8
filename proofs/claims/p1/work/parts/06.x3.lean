theorem w_266 : Cond.methodLink RX11 340 yX7_joinAll ∈ TG := tg (sg_3 _ (List.mem_of_getElem? (i := 131) (by decide +kernel))) (by decide +kernel)
theorem w_267 : Cond.code yX7_joinAll cX7_joinAll 4 none ∈ TG := tg (sg_3 _ (List.mem_of_getElem? (i := 134) (by decide +kernel))) (by decide +kernel)
theorem w_268 : Cond.instanceMethod yX7_joinAll ∈ TG := tg (sg_3 _ (List.mem_of_getElem? (i := 132) (by decide +kernel))) (by decide +kernel)
theorem w_269 : Cond.selects RX7 yX7_joinAll yX7_joinAll ∈ TG := tg (sg_3 _ (List.mem_of_getElem? (i := 133) (by decide +kernel))) (by decide +kernel)
theorem w_270 : Cond.methodLink RX11 192 yX6_allSources ∈ TG := tg (sg_4 _ (List.mem_of_getElem? (i := 135) (by decide +kernel))) (by decide +kernel)
theorem w_271 : Cond.code yX6_allSources cX6_allSources 1 (some .int) ∈ TG := tg (sg_4 _ (List.mem_of_getElem? (i := 138) (by decide +kernel))) (by decide +kernel)
theorem w_272 : Cond.instanceMethod yX6_allSources ∈ TG := tg (sg_4 _ (List.mem_of_getElem? (i := 136) (by decide +kernel))) (by decide +kernel)
theorem w_273 : Cond.selects RX6 yX6_allSources yX6_allSources ∈ TG := tg (sg_4 _ (List.mem_of_getElem? (i := 137) (by decide +kernel))) (by decide +kernel)
theorem w_274 : Cond.constant RJ6 265 1431655765 ∈ TG := tg (sg_4 _ (List.mem_of_getElem? (i := 37) (by decide +kernel))) (by decide +kernel)
theorem w_275 : Cond.constant RJ6 266 858993459 ∈ TG := tg (sg_4 _ (List.mem_of_getElem? (i := 38) (by decide +kernel))) (by decide +kernel)
theorem w_276 : Cond.constant RJ6 267 252645135 ∈ TG := tg (sg_4 _ (List.mem_of_getElem? (i := 39) (by decide +kernel))) (by decide +kernel)
theorem w_277 : Cond.methodLink RX5 84 yJ6_bitCount_0f7a4 ∈ TG := tg (sg_8 _ (List.mem_of_getElem? (i := 130) (by decide +kernel))) (by decide +kernel)
theorem w_278 : Cond.code yJ6_bitCount_0f7a4 cJ6_bitCount_0f7a4 1 (some .int) ∈ TG := tg (sg_4 _ (List.mem_of_getElem? (i := 36) (by decide +kernel))) (by decide +kernel)
theorem w_279 : Cond.static yJ6_bitCount_0f7a4 ∈ TG := tg (sg_4 _ (List.mem_of_getElem? (i := 35) (by decide +kernel))) (by decide +kernel)
theorem w_280 : Cond.initialized RJ6 ∈ TG := tg (sg_1 _ (List.mem_of_getElem? (i := 25) (by decide +kernel))) (by decide +kernel)
theorem w_281 : Cond.fieldLink RX5 15 "StuckatBench$Memory" "badBits" "[I" ∈ TG := tg (sg_2 _ (List.mem_of_getElem? (i := 238) (by decide +kernel))) (by decide +kernel)
theorem w_282 : Cond.methodLink RX5 89 yX5_columnsLeft ∈ TG := tg (sg_8 _ (List.mem_of_getElem? (i := 142) (by decide +kernel))) (by decide +kernel)
theorem w_283 : Cond.code yX5_columnsLeft cX5_columnsLeft 4 (some .int) ∈ TG := tg (sg_8 _ (List.mem_of_getElem? (i := 145) (by decide +kernel))) (by decide +kernel)
theorem w_284 : Cond.instanceMethod yX5_columnsLeft ∈ TG := tg (sg_8 _ (List.mem_of_getElem? (i := 144) (by decide +kernel))) (by decide +kernel)
theorem w_285 : Cond.selects RX5 yX5_columnsLeft yX5_columnsLeft ∈ TG := tg (List.mem_append_left _ (List.mem_map.mpr ⟨(yX5_columnsLeft, 9), List.mem_of_getElem? (i := 63) (by decide +kernel), rfl⟩)) (by decide +kernel)
theorem w_286 : Cond.methodLink RX11 508 yX5_rowsToSpare ∈ TG := tg (sg_8 _ (List.mem_of_getElem? (i := 138) (by decide +kernel))) (by decide +kernel)
theorem w_287 : Cond.code yX5_rowsToSpare cX5_rowsToSpare 8 (some .int) ∈ TG := tg (sg_8 _ (List.mem_of_getElem? (i := 141) (by decide +kernel))) (by decide +kernel)
theorem w_288 : Cond.instanceMethod yX5_rowsToSpare ∈ TG := tg (sg_8 _ (List.mem_of_getElem? (i := 139) (by decide +kernel))) (by decide +kernel)
theorem w_289 : Cond.selects RX5 yX5_rowsToSpare yX5_rowsToSpare ∈ TG := tg (sg_8 _ (List.mem_of_getElem? (i := 140) (by decide +kernel))) (by decide +kernel)
theorem dJ6_bitCount_0f7a4_0 : decode cJ6_bitCount_0f7a4 0 = .ok (.iload_n 0, 1) := by decide +kernel
theorem dJ6_bitCount_0f7a4_1 : decode cJ6_bitCount_0f7a4 1 = .ok (.iload_n 0, 1) := by decide +kernel
theorem dJ6_bitCount_0f7a4_2 : decode cJ6_bitCount_0f7a4 2 = .ok (.iconst 1, 1) := by decide +kernel
theorem dJ6_bitCount_0f7a4_3 : decode cJ6_bitCount_0f7a4 3 = .ok (.iushr, 1) := by decide +kernel
theorem dJ6_bitCount_0f7a4_4 : decode cJ6_bitCount_0f7a4 4 = .ok (.ldc_w 265, 3) := by decide +kernel
theorem dJ6_bitCount_0f7a4_7 : decode cJ6_bitCount_0f7a4 7 = .ok (.iand, 1) := by decide +kernel
theorem dJ6_bitCount_0f7a4_8 : decode cJ6_bitCount_0f7a4 8 = .ok (.isub, 1) := by decide +kernel
theorem dJ6_bitCount_0f7a4_9 : decode cJ6_bitCount_0f7a4 9 = .ok (.istore_n 0, 1) := by decide +kernel
theorem dJ6_bitCount_0f7a4_10 : decode cJ6_bitCount_0f7a4 10 = .ok (.iload_n 0, 1) := by decide +kernel
theorem dJ6_bitCount_0f7a4_11 : decode cJ6_bitCount_0f7a4 11 = .ok (.ldc_w 266, 3) := by decide +kernel
theorem dJ6_bitCount_0f7a4_14 : decode cJ6_bitCount_0f7a4 14 = .ok (.iand, 1) := by decide +kernel
theorem dJ6_bitCount_0f7a4_15 : decode cJ6_bitCount_0f7a4 15 = .ok (.iload_n 0, 1) := by decide +kernel
theorem dJ6_bitCount_0f7a4_16 : decode cJ6_bitCount_0f7a4 16 = .ok (.iconst 2, 1) := by decide +kernel
theorem dJ6_bitCount_0f7a4_17 : decode cJ6_bitCount_0f7a4 17 = .ok (.iushr, 1) := by decide +kernel
theorem dJ6_bitCount_0f7a4_18 : decode cJ6_bitCount_0f7a4 18 = .ok (.ldc_w 266, 3) := by decide +kernel
theorem dJ6_bitCount_0f7a4_21 : decode cJ6_bitCount_0f7a4 21 = .ok (.iand, 1) := by decide +kernel
theorem dJ6_bitCount_0f7a4_22 : decode cJ6_bitCount_0f7a4 22 = .ok (.iadd, 1) := by decide +kernel
theorem dJ6_bitCount_0f7a4_23 : decode cJ6_bitCount_0f7a4 23 = .ok (.istore_n 0, 1) := by decide +kernel
theorem dJ6_bitCount_0f7a4_24 : decode cJ6_bitCount_0f7a4 24 = .ok (.iload_n 0, 1) := by decide +kernel
theorem dJ6_bitCount_0f7a4_25 : decode cJ6_bitCount_0f7a4 25 = .ok (.iload_n 0, 1) := by decide +kernel
theorem dJ6_bitCount_0f7a4_26 : decode cJ6_bitCount_0f7a4 26 = .ok (.iconst 4, 1) := by decide +kernel
theorem dJ6_bitCount_0f7a4_27 : decode cJ6_bitCount_0f7a4 27 = .ok (.iushr, 1) := by decide +kernel
theorem dJ6_bitCount_0f7a4_28 : decode cJ6_bitCount_0f7a4 28 = .ok (.iadd, 1) := by decide +kernel
theorem dJ6_bitCount_0f7a4_29 : decode cJ6_bitCount_0f7a4 29 = .ok (.ldc_w 267, 3) := by decide +kernel
theorem dJ6_bitCount_0f7a4_32 : decode cJ6_bitCount_0f7a4 32 = .ok (.iand, 1) := by decide +kernel
theorem dJ6_bitCount_0f7a4_33 : decode cJ6_bitCount_0f7a4 33 = .ok (.istore_n 0, 1) := by decide +kernel
theorem dJ6_bitCount_0f7a4_34 : decode cJ6_bitCount_0f7a4 34 = .ok (.iload_n 0, 1) := by decide +kernel
theorem dJ6_bitCount_0f7a4_35 : decode cJ6_bitCount_0f7a4 35 = .ok (.iload_n 0, 1) := by decide +kernel
theorem dJ6_bitCount_0f7a4_36 : decode cJ6_bitCount_0f7a4 36 = .ok (.bipush 8, 2) := by decide +kernel
theorem dJ6_bitCount_0f7a4_38 : decode cJ6_bitCount_0f7a4 38 = .ok (.iushr, 1) := by decide +kernel
theorem dJ6_bitCount_0f7a4_39 : decode cJ6_bitCount_0f7a4 39 = .ok (.iadd, 1) := by decide +kernel
theorem dJ6_bitCount_0f7a4_40 : decode cJ6_bitCount_0f7a4 40 = .ok (.istore_n 0, 1) := by decide +kernel
theorem dJ6_bitCount_0f7a4_41 : decode cJ6_bitCount_0f7a4 41 = .ok (.iload_n 0, 1) := by decide +kernel
theorem dJ6_bitCount_0f7a4_42 : decode cJ6_bitCount_0f7a4 42 = .ok (.iload_n 0, 1) := by decide +kernel
theorem dJ6_bitCount_0f7a4_43 : decode cJ6_bitCount_0f7a4 43 = .ok (.bipush 16, 2) := by decide +kernel
theorem dJ6_bitCount_0f7a4_45 : decode cJ6_bitCount_0f7a4 45 = .ok (.iushr, 1) := by decide +kernel
theorem dJ6_bitCount_0f7a4_46 : decode cJ6_bitCount_0f7a4 46 = .ok (.iadd, 1) := by decide +kernel
theorem dJ6_bitCount_0f7a4_47 : decode cJ6_bitCount_0f7a4 47 = .ok (.istore_n 0, 1) := by decide +kernel
theorem dJ6_bitCount_0f7a4_48 : decode cJ6_bitCount_0f7a4 48 = .ok (.iload_n 0, 1) := by decide +kernel
theorem dJ6_bitCount_0f7a4_49 : decode cJ6_bitCount_0f7a4 49 = .ok (.bipush 63, 2) := by decide +kernel
theorem dJ6_bitCount_0f7a4_51 : decode cJ6_bitCount_0f7a4 51 = .ok (.iand, 1) := by decide +kernel
theorem dJ6_bitCount_0f7a4_52 : decode cJ6_bitCount_0f7a4 52 = .ok (.ireturn, 1) := by decide +kernel
theorem dX11_mergeAll_0 : decode cX11_mergeAll 0 = .ok (.aload_n 0, 1) := by decide +kernel
theorem dX11_mergeAll_1 : decode cX11_mergeAll 1 = .ok (.getfield 28, 3) := by decide +kernel
theorem dX11_mergeAll_4 : decode cX11_mergeAll 4 = .ok (.invokevirtual 340, 3) := by decide +kernel
theorem dX11_mergeAll_7 : decode cX11_mergeAll 7 = .ok (.aload_n 0, 1) := by decide +kernel
theorem dX11_mergeAll_8 : decode cX11_mergeAll 8 = .ok (.getfield 28, 3) := by decide +kernel
theorem dX11_mergeAll_11 : decode cX11_mergeAll 11 = .ok (.getfield 103, 3) := by decide +kernel
theorem dX11_mergeAll_14 : decode cX11_mergeAll 14 = .ok (.ireturn, 1) := by decide +kernel
theorem dX11_openWire_0 : decode cX11_openWire 0 = .ok (.aload_n 0, 1) := by decide +kernel
theorem dX11_openWire_1 : decode cX11_openWire 1 = .ok (.iload_n 1, 1) := by decide +kernel
theorem dX11_openWire_2 : decode cX11_openWire 2 = .ok (.invokevirtual 515, 3) := by decide +kernel
theorem dX11_openWire_5 : decode cX11_openWire 5 = .ok (.iload_n 2, 1) := by decide +kernel
theorem dX11_openWire_6 : decode cX11_openWire 6 = .ok (.iconst 0, 1) := by decide +kernel
theorem dX11_openWire_7 : decode cX11_openWire 7 = .ok (.iconst 1, 1) := by decide +kernel
theorem dX11_openWire_8 : decode cX11_openWire 8 = .ok (.invokestatic 361, 3) := by decide +kernel
theorem dX11_openWire_11 : decode cX11_openWire 11 = .ok (.aload_n 0, 1) := by decide +kernel
theorem dX11_openWire_12 : decode cX11_openWire 12 = .ok (.getfield 85, 3) := by decide +kernel
theorem dX11_openWire_15 : decode cX11_openWire 15 = .ok (.iload_n 1, 1) := by decide +kernel
theorem dX11_openWire_16 : decode cX11_openWire 16 = .ok (.invokevirtual 518, 3) := by decide +kernel
theorem dX11_openWire_19 : decode cX11_openWire 19 = .ok (.ifCond .ne 7, 3) := by decide +kernel
theorem dX11_openWire_22 : decode cX11_openWire 22 = .ok (.iconst 1, 1) := by decide +kernel
theorem dX11_openWire_23 : decode cX11_openWire 23 = .ok (.goto 4, 3) := by decide +kernel
theorem dX11_openWire_26 : decode cX11_openWire 26 = .ok (.iconst 0, 1) := by decide +kernel
theorem dX11_openWire_27 : decode cX11_openWire 27 = .ok (.istore_n 3, 1) := by decide +kernel
theorem dX11_openWire_28 : decode cX11_openWire 28 = .ok (.aload_n 0, 1) := by decide +kernel
theorem dX11_openWire_29 : decode cX11_openWire 29 = .ok (.getfield 85, 3) := by decide +kernel
theorem dX11_openWire_32 : decode cX11_openWire 32 = .ok (.getfield 521, 3) := by decide +kernel
theorem dX11_openWire_35 : decode cX11_openWire 35 = .ok (.iload_n 1, 1) := by decide +kernel
theorem dX11_openWire_36 : decode cX11_openWire 36 = .ok (.iload_n 2, 1) := by decide +kernel
theorem dX11_openWire_37 : decode cX11_openWire 37 = .ok (.iastore, 1) := by decide +kernel
theorem dX11_openWire_38 : decode cX11_openWire 38 = .ok (.iload_n 3, 1) := by decide +kernel
theorem dX11_openWire_39 : decode cX11_openWire 39 = .ok (.ireturn, 1) := by decide +kernel
theorem dX11_orderAt_0 : decode cX11_orderAt 0 = .ok (.iload_n 1, 1) := by decide +kernel
theorem dX11_orderAt_1 : decode cX11_orderAt 1 = .ok (.ifCond .lt 14, 3) := by decide +kernel
theorem dX11_orderAt_4 : decode cX11_orderAt 4 = .ok (.iload_n 1, 1) := by decide +kernel
theorem dX11_orderAt_5 : decode cX11_orderAt 5 = .ok (.aload_n 0, 1) := by decide +kernel
theorem dX11_orderAt_6 : decode cX11_orderAt 6 = .ok (.getfield 28, 3) := by decide +kernel
theorem dX11_orderAt_9 : decode cX11_orderAt 9 = .ok (.getfield 103, 3) := by decide +kernel
theorem dX11_orderAt_12 : decode cX11_orderAt 12 = .ok (.if_icmp .lt 11, 3) := by decide +kernel
theorem dX11_orderAt_15 : decode cX11_orderAt 15 = .ok (.new 310, 3) := by decide +kernel
theorem dX11_orderAt_18 : decode cX11_orderAt 18 = .ok (.dup, 1) := by decide +kernel
theorem dX11_orderAt_19 : decode cX11_orderAt 19 = .ok (.invokespecial 312, 3) := by decide +kernel
theorem dX11_orderAt_22 : decode cX11_orderAt 22 = .ok (.athrow, 1) := by decide +kernel
theorem dX11_orderAt_23 : decode cX11_orderAt 23 = .ok (.aload_n 0, 1) := by decide +kernel
theorem dX11_orderAt_24 : decode cX11_orderAt 24 = .ok (.getfield 37, 3) := by decide +kernel
theorem dX11_orderAt_27 : decode cX11_orderAt 27 = .ok (.aload_n 0, 1) := by decide +kernel
theorem dX11_orderAt_28 : decode cX11_orderAt 28 = .ok (.getfield 28, 3) := by decide +kernel
theorem dX11_orderAt_31 : decode cX11_orderAt 31 = .ok (.invokevirtual 276, 3) := by decide +kernel
theorem dX11_orderAt_34 : decode cX11_orderAt 34 = .ok (.aload_n 0, 1) := by decide +kernel
theorem dX11_orderAt_35 : decode cX11_orderAt 35 = .ok (.getfield 28, 3) := by decide +kernel
theorem dX11_orderAt_38 : decode cX11_orderAt 38 = .ok (.aload_n 0, 1) := by decide +kernel
theorem dX11_orderAt_39 : decode cX11_orderAt 39 = .ok (.getfield 37, 3) := by decide +kernel
theorem dX11_orderAt_42 : decode cX11_orderAt 42 = .ok (.aload_n 0, 1) := by decide +kernel
theorem dX11_orderAt_43 : decode cX11_orderAt 43 = .ok (.getfield 21, 3) := by decide +kernel
theorem dX11_orderAt_46 : decode cX11_orderAt 46 = .ok (.invokevirtual 471, 3) := by decide +kernel
theorem dX11_orderAt_49 : decode cX11_orderAt 49 = .ok (.aload_n 0, 1) := by decide +kernel
theorem dX11_orderAt_50 : decode cX11_orderAt 50 = .ok (.getfield 28, 3) := by decide +kernel
theorem dX11_orderAt_53 : decode cX11_orderAt 53 = .ok (.getfield 475, 3) := by decide +kernel
theorem dX11_orderAt_56 : decode cX11_orderAt 56 = .ok (.iload_n 1, 1) := by decide +kernel
theorem dX11_orderAt_57 : decode cX11_orderAt 57 = .ok (.iaload, 1) := by decide +kernel
theorem dX11_orderAt_58 : decode cX11_orderAt 58 = .ok (.ireturn, 1) := by decide +kernel
theorem dX11_output_0 : decode cX11_output 0 = .ok (.aload_n 0, 1) := by decide +kernel
theorem dX11_output_1 : decode cX11_output 1 = .ok (.iload_n 1, 1) := by decide +kernel
theorem dX11_output_2 : decode cX11_output 2 = .ok (.invokevirtual 149, 3) := by decide +kernel
theorem dX11_output_5 : decode cX11_output 5 = .ok (.aload_n 0, 1) := by decide +kernel
theorem dX11_output_6 : decode cX11_output 6 = .ok (.invokevirtual 135, 3) := by decide +kernel
theorem dX11_output_9 : decode cX11_output 9 = .ok (.aload_n 0, 1) := by decide +kernel
theorem dX11_output_10 : decode cX11_output 10 = .ok (.getfield 10, 3) := by decide +kernel
theorem dX11_output_13 : decode cX11_output 13 = .ok (.getfield 163, 3) := by decide +kernel
theorem dX11_output_16 : decode cX11_output 16 = .ok (.iload_n 1, 1) := by decide +kernel
theorem dX11_output_17 : decode cX11_output 17 = .ok (.baload, 1) := by decide +kernel
theorem dX11_output_18 : decode cX11_output 18 = .ok (.ifCond .ne 7, 3) := by decide +kernel
theorem dX11_output_21 : decode cX11_output 21 = .ok (.iconst 1, 1) := by decide +kernel
theorem dX11_output_22 : decode cX11_output 22 = .ok (.goto 4, 3) := by decide +kernel
theorem dX11_output_25 : decode cX11_output 25 = .ok (.iconst 0, 1) := by decide +kernel
theorem dX11_output_26 : decode cX11_output 26 = .ok (.istore_n 2, 1) := by decide +kernel
theorem dX11_output_27 : decode cX11_output 27 = .ok (.aload_n 0, 1) := by decide +kernel
theorem dX11_output_28 : decode cX11_output 28 = .ok (.getfield 10, 3) := by decide +kernel
theorem dX11_output_31 : decode cX11_output 31 = .ok (.getfield 163, 3) := by decide +kernel
theorem dX11_output_34 : decode cX11_output 34 = .ok (.iload_n 1, 1) := by decide +kernel
theorem dX11_output_35 : decode cX11_output 35 = .ok (.iconst 1, 1) := by decide +kernel
theorem dX11_output_36 : decode cX11_output 36 = .ok (.bastore, 1) := by decide +kernel
theorem dX11_output_37 : decode cX11_output 37 = .ok (.iload_n 2, 1) := by decide +kernel
theorem dX11_output_38 : decode cX11_output 38 = .ok (.ireturn, 1) := by decide +kernel
theorem dX11_pattern_0 : decode cX11_pattern 0 = .ok (.iload_n 1, 1) := by decide +kernel
theorem dX11_pattern_1 : decode cX11_pattern 1 = .ok (.aload_n 0, 1) := by decide +kernel
theorem dX11_pattern_2 : decode cX11_pattern 2 = .ok (.getfield 10, 3) := by decide +kernel
theorem dX11_pattern_5 : decode cX11_pattern 5 = .ok (.invokevirtual 192, 3) := by decide +kernel
theorem dX11_pattern_8 : decode cX11_pattern 8 = .ok (.iconst (-1), 1) := by decide +kernel
theorem dX11_pattern_9 : decode cX11_pattern 9 = .ok (.ixor, 1) := by decide +kernel
theorem dX11_pattern_10 : decode cX11_pattern 10 = .ok (.iand, 1) := by decide +kernel
theorem dX11_pattern_11 : decode cX11_pattern 11 = .ok (.ifCond .ne 11, 3) := by decide +kernel
theorem dX11_pattern_14 : decode cX11_pattern 14 = .ok (.iload_n 2, 1) := by decide +kernel
theorem dX11_pattern_15 : decode cX11_pattern 15 = .ok (.iload_n 1, 1) := by decide +kernel
theorem dX11_pattern_16 : decode cX11_pattern 16 = .ok (.iconst (-1), 1) := by decide +kernel
theorem dX11_pattern_17 : decode cX11_pattern 17 = .ok (.ixor, 1) := by decide +kernel
theorem dX11_pattern_18 : decode cX11_pattern 18 = .ok (.iand, 1) := by decide +kernel
theorem dX11_pattern_19 : decode cX11_pattern 19 = .ok (.ifCond .eq 11, 3) := by decide +kernel
theorem dX11_pattern_22 : decode cX11_pattern 22 = .ok (.new 114, 3) := by decide +kernel
theorem dX11_pattern_25 : decode cX11_pattern 25 = .ok (.dup, 1) := by decide +kernel
theorem dX11_pattern_26 : decode cX11_pattern 26 = .ok (.invokespecial 116, 3) := by decide +kernel
theorem dX11_pattern_29 : decode cX11_pattern 29 = .ok (.athrow, 1) := by decide +kernel
theorem dX11_pattern_30 : decode cX11_pattern 30 = .ok (.aload_n 0, 1) := by decide +kernel
theorem dX11_pattern_31 : decode cX11_pattern 31 = .ok (.invokevirtual 177, 3) := by decide +kernel
theorem dX11_pattern_34 : decode cX11_pattern 34 = .ok (.aload_n 0, 1) := by decide +kernel
theorem dX11_pattern_35 : decode cX11_pattern 35 = .ok (.getfield 28, 3) := by decide +kernel
theorem dX11_pattern_38 : decode cX11_pattern 38 = .ok (.getfield 103, 3) := by decide +kernel
theorem dX11_pattern_41 : decode cX11_pattern 41 = .ok (.bipush 32, 2) := by decide +kernel
theorem dX11_pattern_43 : decode cX11_pattern 43 = .ok (.if_icmp .lt 11, 3) := by decide +kernel
theorem dX11_pattern_46 : decode cX11_pattern 46 = .ok (.new 141, 3) := by decide +kernel
theorem dX11_pattern_49 : decode cX11_pattern 49 = .ok (.dup, 1) := by decide +kernel
theorem dX11_pattern_50 : decode cX11_pattern 50 = .ok (.invokespecial 143, 3) := by decide +kernel
theorem dX11_pattern_53 : decode cX11_pattern 53 = .ok (.athrow, 1) := by decide +kernel
theorem dX11_pattern_54 : decode cX11_pattern 54 = .ok (.aload_n 0, 1) := by decide +kernel
theorem dX11_pattern_55 : decode cX11_pattern 55 = .ok (.getfield 28, 3) := by decide +kernel
theorem dX11_pattern_58 : decode cX11_pattern 58 = .ok (.iload_n 1, 1) := by decide +kernel
theorem dX11_pattern_59 : decode cX11_pattern 59 = .ok (.iload_n 2, 1) := by decide +kernel
theorem dX11_pattern_60 : decode cX11_pattern 60 = .ok (.invokevirtual 196, 3) := by decide +kernel
theorem dX11_pattern_63 : decode cX11_pattern 63 = .ok (.ireturn, 1) := by decide +kernel
theorem dX11_patterns_0 : decode cX11_patterns 0 = .ok (.aload_n 0, 1) := by decide +kernel
theorem dX11_patterns_1 : decode cX11_patterns 1 = .ok (.getfield 28, 3) := by decide +kernel
theorem dX11_patterns_4 : decode cX11_patterns 4 = .ok (.getfield 103, 3) := by decide +kernel
theorem dX11_patterns_7 : decode cX11_patterns 7 = .ok (.ireturn, 1) := by decide +kernel
theorem dX11_pinOf_0 : decode cX11_pinOf 0 = .ok (.aload_n 0, 1) := by decide +kernel
theorem dX11_pinOf_1 : decode cX11_pinOf 1 = .ok (.iload_n 1, 1) := by decide +kernel
theorem dX11_pinOf_2 : decode cX11_pinOf 2 = .ok (.invokevirtual 107, 3) := by decide +kernel
theorem dX11_pinOf_5 : decode cX11_pinOf 5 = .ok (.aload_n 0, 1) := by decide +kernel
theorem dX11_pinOf_6 : decode cX11_pinOf 6 = .ok (.getfield 21, 3) := by decide +kernel
theorem dX11_pinOf_9 : decode cX11_pinOf 9 = .ok (.getfield 219, 3) := by decide +kernel
theorem dX11_pinOf_12 : decode cX11_pinOf 12 = .ok (.iload_n 1, 1) := by decide +kernel
theorem dX11_pinOf_13 : decode cX11_pinOf 13 = .ok (.iaload, 1) := by decide +kernel
theorem dX11_pinOf_14 : decode cX11_pinOf 14 = .ok (.ireturn, 1) := by decide +kernel
theorem dX11_power_0 : decode cX11_power 0 = .ok (.aload_n 0, 1) := by decide +kernel
theorem dX11_power_1 : decode cX11_power 1 = .ok (.iload_n 1, 1) := by decide +kernel
theorem dX11_power_2 : decode cX11_power 2 = .ok (.invokevirtual 200, 3) := by decide +kernel
theorem dX11_power_5 : decode cX11_power 5 = .ok (.aload_n 0, 1) := by decide +kernel
theorem dX11_power_6 : decode cX11_power 6 = .ok (.getfield 28, 3) := by decide +kernel
theorem dX11_power_9 : decode cX11_power 9 = .ok (.iload_n 1, 1) := by decide +kernel
theorem dX11_power_10 : decode cX11_power 10 = .ok (.aload_n 0, 1) := by decide +kernel
theorem dX11_power_11 : decode cX11_power 11 = .ok (.getfield 10, 3) := by decide +kernel
theorem dX11_power_14 : decode cX11_power 14 = .ok (.getfield 138, 3) := by decide +kernel
theorem dX11_power_17 : decode cX11_power 17 = .ok (.invokevirtual 355, 3) := by decide +kernel
theorem dX11_power_20 : decode cX11_power 20 = .ok (.ireturn, 1) := by decide +kernel
theorem dX11_record_0 : decode cX11_record 0 = .ok (.aload_n 0, 1) := by decide +kernel
theorem dX11_record_1 : decode cX11_record 1 = .ok (.getfield 71, 3) := by decide +kernel
theorem dX11_record_4 : decode cX11_record 4 = .ok (.invokevirtual 438, 3) := by decide +kernel
theorem dX11_record_7 : decode cX11_record 7 = .ok (.aload_n 0, 1) := by decide +kernel
theorem dX11_record_8 : decode cX11_record 8 = .ok (.getfield 71, 3) := by decide +kernel
theorem dX11_record_11 : decode cX11_record 11 = .ok (.iconst 0, 1) := by decide +kernel
theorem dX11_record_12 : decode cX11_record 12 = .ok (.invokevirtual 441, 3) := by decide +kernel
theorem dX11_record_15 : decode cX11_record 15 = .ok (.istore_n 1, 1) := by decide +kernel
theorem dX11_record_16 : decode cX11_record 16 = .ok (.iload_n 1, 1) := by decide +kernel
theorem dX11_record_17 : decode cX11_record 17 = .ok (.ifCond .ge 11, 3) := by decide +kernel
theorem dX11_record_20 : decode cX11_record 20 = .ok (.new 310, 3) := by decide +kernel
theorem dX11_record_23 : decode cX11_record 23 = .ok (.dup, 1) := by decide +kernel
theorem dX11_record_24 : decode cX11_record 24 = .ok (.invokespecial 312, 3) := by decide +kernel
theorem dX11_record_27 : decode cX11_record 27 = .ok (.athrow, 1) := by decide +kernel
theorem dX11_record_28 : decode cX11_record 28 = .ok (.aload_n 0, 1) := by decide +kernel
theorem dX11_record_29 : decode cX11_record 29 = .ok (.getfield 21, 3) := by decide +kernel
theorem dX11_record_32 : decode cX11_record 32 = .ok (.getfield 447, 3) := by decide +kernel
theorem dX11_record_35 : decode cX11_record 35 = .ok (.iload_n 1, 1) := by decide +kernel
theorem dX11_record_36 : decode cX11_record 36 = .ok (.dup2, 1) := by decide +kernel
theorem dX11_record_37 : decode cX11_record 37 = .ok (.iaload, 1) := by decide +kernel
theorem dX11_record_38 : decode cX11_record 38 = .ok (.iconst 1, 1) := by decide +kernel
theorem dX11_record_39 : decode cX11_record 39 = .ok (.iadd, 1) := by decide +kernel
theorem dX11_record_40 : decode cX11_record 40 = .ok (.iastore, 1) := by decide +kernel
theorem dX11_record_41 : decode cX11_record 41 = .ok (.aload_n 0, 1) := by decide +kernel
theorem dX11_record_42 : decode cX11_record 42 = .ok (.getfield 21, 3) := by decide +kernel
theorem dX11_record_45 : decode cX11_record 45 = .ok (.iload_n 1, 1) := by decide +kernel
theorem dX11_record_46 : decode cX11_record 46 = .ok (.invokevirtual 450, 3) := by decide +kernel
theorem dX11_record_49 : decode cX11_record 49 = .ok (.ireturn, 1) := by decide +kernel
theorem dX11_repair_0 : decode cX11_repair 0 = .ok (.iload_n 1, 1) := by decide +kernel
theorem dX11_repair_1 : decode cX11_repair 1 = .ok (.iconst 0, 1) := by decide +kernel
theorem dX11_repair_2 : decode cX11_repair 2 = .ok (.bipush 8, 2) := by decide +kernel
theorem dX11_repair_4 : decode cX11_repair 4 = .ok (.invokestatic 361, 3) := by decide +kernel
theorem dX11_repair_7 : decode cX11_repair 7 = .ok (.iload_n 2, 1) := by decide +kernel
theorem dX11_repair_8 : decode cX11_repair 8 = .ok (.iconst 0, 1) := by decide +kernel
theorem dX11_repair_9 : decode cX11_repair 9 = .ok (.bipush 8, 2) := by decide +kernel
theorem dX11_repair_11 : decode cX11_repair 11 = .ok (.invokestatic 361, 3) := by decide +kernel
theorem dX11_repair_14 : decode cX11_repair 14 = .ok (.aload_n 0, 1) := by decide +kernel
theorem dX11_repair_15 : decode cX11_repair 15 = .ok (.getfield 78, 3) := by decide +kernel
theorem dX11_repair_18 : decode cX11_repair 18 = .ok (.iload_n 1, 1) := by decide +kernel
theorem dX11_repair_19 : decode cX11_repair 19 = .ok (.iload_n 2, 1) := by decide +kernel
theorem dX11_repair_20 : decode cX11_repair 20 = .ok (.invokevirtual 508, 3) := by decide +kernel
theorem dX11_repair_23 : decode cX11_repair 23 = .ok (.istore_n 3, 1) := by decide +kernel
theorem dX11_repair_24 : decode cX11_repair 24 = .ok (.iload_n 3, 1) := by decide +kernel
theorem dX11_repair_25 : decode cX11_repair 25 = .ok (.ifCond .ge 11, 3) := by decide +kernel
theorem dX11_repair_28 : decode cX11_repair 28 = .ok (.new 310, 3) := by decide +kernel
theorem dX11_repair_31 : decode cX11_repair 31 = .ok (.dup, 1) := by decide +kernel
theorem dX11_repair_32 : decode cX11_repair 32 = .ok (.invokespecial 312, 3) := by decide +kernel
theorem dX11_repair_35 : decode cX11_repair 35 = .ok (.athrow, 1) := by decide +kernel
theorem dX11_repair_36 : decode cX11_repair 36 = .ok (.iload_n 3, 1) := by decide +kernel
theorem dX11_repair_37 : decode cX11_repair 37 = .ok (.ireturn, 1) := by decide +kernel
theorem dX11_sameAs_0 : decode cX11_sameAs 0 = .ok (.aload_n 0, 1) := by decide +kernel
theorem dX11_sameAs_1 : decode cX11_sameAs 1 = .ok (.iload_n 1, 1) := by decide +kernel
theorem dX11_sameAs_2 : decode cX11_sameAs 2 = .ok (.invokevirtual 515, 3) := by decide +kernel
theorem dX11_sameAs_5 : decode cX11_sameAs 5 = .ok (.aload_n 0, 1) := by decide +kernel
theorem dX11_sameAs_6 : decode cX11_sameAs 6 = .ok (.iload_n 2, 1) := by decide +kernel
theorem dX11_sameAs_7 : decode cX11_sameAs 7 = .ok (.invokevirtual 526, 3) := by decide +kernel
theorem dX11_sameAs_10 : decode cX11_sameAs 10 = .ok (.aload_n 0, 1) := by decide +kernel
theorem dX11_sameAs_11 : decode cX11_sameAs 11 = .ok (.getfield 85, 3) := by decide +kernel
theorem dX11_sameAs_14 : decode cX11_sameAs 14 = .ok (.iload_n 1, 1) := by decide +kernel
theorem dX11_sameAs_15 : decode cX11_sameAs 15 = .ok (.iload_n 2, 1) := by decide +kernel
theorem dX11_sameAs_16 : decode cX11_sameAs 16 = .ok (.invokevirtual 529, 3) := by decide +kernel
theorem dX11_sameAs_19 : decode cX11_sameAs 19 = .ok (.istore_n 3, 1) := by decide +kernel
theorem dX11_sameAs_20 : decode cX11_sameAs 20 = .ok (.iconst 0, 1) := by decide +kernel
theorem dX11_sameAs_21 : decode cX11_sameAs 21 = .ok (.istore 4, 2) := by decide +kernel
theorem dX11_sameAs_23 : decode cX11_sameAs 23 = .ok (.iconst 0, 1) := by decide +kernel
theorem dX11_sameAs_24 : decode cX11_sameAs 24 = .ok (.istore 5, 2) := by decide +kernel
theorem dX11_sameAs_26 : decode cX11_sameAs 26 = .ok (.iload 5, 2) := by decide +kernel
theorem dX11_sameAs_28 : decode cX11_sameAs 28 = .ok (.aload_n 0, 1) := by decide +kernel
theorem dX11_sameAs_29 : decode cX11_sameAs 29 = .ok (.getfield 85, 3) := by decide +kernel
theorem dX11_sameAs_32 : decode cX11_sameAs 32 = .ok (.getfield 128, 3) := by decide +kernel
theorem dX11_sameAs_35 : decode cX11_sameAs 35 = .ok (.if_icmp .ge 26, 3) := by decide +kernel
theorem dX11_sameAs_38 : decode cX11_sameAs 38 = .ok (.aload_n 0, 1) := by decide +kernel
theorem dX11_sameAs_39 : decode cX11_sameAs 39 = .ok (.getfield 85, 3) := by decide +kernel
theorem dX11_sameAs_42 : decode cX11_sameAs 42 = .ok (.iload 5, 2) := by decide +kernel
theorem dX11_sameAs_44 : decode cX11_sameAs 44 = .ok (.iload_n 2, 1) := by decide +kernel
theorem dX11_sameAs_45 : decode cX11_sameAs 45 = .ok (.invokevirtual 529, 3) := by decide +kernel
theorem dX11_sameAs_48 : decode cX11_sameAs 48 = .ok (.iload_n 3, 1) := by decide +kernel
theorem dX11_sameAs_49 : decode cX11_sameAs 49 = .ok (.if_icmp .ne 6, 3) := by decide +kernel
theorem dX11_sameAs_52 : decode cX11_sameAs 52 = .ok (.iinc 4 1, 3) := by decide +kernel
theorem dX11_sameAs_55 : decode cX11_sameAs 55 = .ok (.iinc 5 1, 3) := by decide +kernel
theorem dX11_sameAs_58 : decode cX11_sameAs 58 = .ok (.goto (-32), 3) := by decide +kernel
theorem dX11_sameAs_61 : decode cX11_sameAs 61 = .ok (.iload 4, 2) := by decide +kernel
theorem dX11_sameAs_63 : decode cX11_sameAs 63 = .ok (.ireturn, 1) := by decide +kernel
theorem dX11_seedFor_0 : decode cX11_seedFor 0 = .ok (.aload_n 0, 1) := by decide +kernel
theorem dX11_seedFor_1 : decode cX11_seedFor 1 = .ok (.iload_n 1, 1) := by decide +kernel
theorem dX11_seedFor_2 : decode cX11_seedFor 2 = .ok (.invokevirtual 200, 3) := by decide +kernel
theorem dX11_seedFor_5 : decode cX11_seedFor 5 = .ok (.aload_n 0, 1) := by decide +kernel
theorem dX11_seedFor_6 : decode cX11_seedFor 6 = .ok (.getfield 62, 3) := by decide +kernel
theorem dX11_seedFor_9 : decode cX11_seedFor 9 = .ok (.aload_n 0, 1) := by decide +kernel
theorem dX11_seedFor_10 : decode cX11_seedFor 10 = .ok (.getfield 28, 3) := by decide +kernel
theorem dX11_seedFor_13 : decode cX11_seedFor 13 = .ok (.getfield 264, 3) := by decide +kernel
theorem dX11_seedFor_16 : decode cX11_seedFor 16 = .ok (.iload_n 1, 1) := by decide +kernel
theorem dX11_seedFor_17 : decode cX11_seedFor 17 = .ok (.iaload, 1) := by decide +kernel
theorem dX11_seedFor_18 : decode cX11_seedFor 18 = .ok (.aload_n 0, 1) := by decide +kernel
theorem dX11_seedFor_19 : decode cX11_seedFor 19 = .ok (.getfield 28, 3) := by decide +kernel
theorem dX11_seedFor_22 : decode cX11_seedFor 22 = .ok (.getfield 358, 3) := by decide +kernel
theorem dX11_seedFor_25 : decode cX11_seedFor 25 = .ok (.iload_n 1, 1) := by decide +kernel
theorem dX11_seedFor_26 : decode cX11_seedFor 26 = .ok (.iaload, 1) := by decide +kernel
theorem dX11_seedFor_27 : decode cX11_seedFor 27 = .ok (.aload_n 0, 1) := by decide +kernel
theorem dX11_seedFor_28 : decode cX11_seedFor 28 = .ok (.getfield 10, 3) := by decide +kernel
theorem dX11_seedFor_31 : decode cX11_seedFor 31 = .ok (.getfield 138, 3) := by decide +kernel
theorem dX11_seedFor_34 : decode cX11_seedFor 34 = .ok (.invokevirtual 374, 3) := by decide +kernel
theorem dX11_seedFor_37 : decode cX11_seedFor 37 = .ok (.istore_n 2, 1) := by decide +kernel
theorem dX11_seedFor_38 : decode cX11_seedFor 38 = .ok (.iload_n 2, 1) := by decide +kernel
theorem dX11_seedFor_39 : decode cX11_seedFor 39 = .ok (.ifCond .ge 11, 3) := by decide +kernel
theorem dX11_seedFor_42 : decode cX11_seedFor 42 = .ok (.new 310, 3) := by decide +kernel
theorem dX11_seedFor_45 : decode cX11_seedFor 45 = .ok (.dup, 1) := by decide +kernel
theorem dX11_seedFor_46 : decode cX11_seedFor 46 = .ok (.invokespecial 312, 3) := by decide +kernel
theorem dX11_seedFor_49 : decode cX11_seedFor 49 = .ok (.athrow, 1) := by decide +kernel
theorem dX11_seedFor_50 : decode cX11_seedFor 50 = .ok (.iload_n 2, 1) := by decide +kernel
theorem dX11_seedFor_51 : decode cX11_seedFor 51 = .ok (.ireturn, 1) := by decide +kernel
theorem dX11_seen_0 : decode cX11_seen 0 = .ok (.aload_n 0, 1) := by decide +kernel
theorem dX11_seen_1 : decode cX11_seen 1 = .ok (.iload_n 1, 1) := by decide +kernel
theorem dX11_seen_2 : decode cX11_seen 2 = .ok (.invokevirtual 200, 3) := by decide +kernel
theorem dX11_seen_5 : decode cX11_seen 5 = .ok (.iload_n 2, 1) := by decide +kernel
theorem dX11_seen_6 : decode cX11_seen 6 = .ok (.ifCond .lt 14, 3) := by decide +kernel
theorem dX11_seen_9 : decode cX11_seen 9 = .ok (.iload_n 2, 1) := by decide +kernel
theorem dX11_seen_10 : decode cX11_seen 10 = .ok (.aload_n 0, 1) := by decide +kernel
theorem dX11_seen_11 : decode cX11_seen 11 = .ok (.getfield 10, 3) := by decide +kernel
theorem dX11_seen_14 : decode cX11_seen 14 = .ok (.getfield 453, 3) := by decide +kernel
theorem dX11_seen_17 : decode cX11_seen 17 = .ok (.if_icmp .lt 11, 3) := by decide +kernel
theorem dX11_seen_20 : decode cX11_seen 20 = .ok (.new 100, 3) := by decide +kernel
theorem dX11_seen_23 : decode cX11_seen 23 = .ok (.dup, 1) := by decide +kernel
theorem dX11_seen_24 : decode cX11_seen 24 = .ok (.invokespecial 102, 3) := by decide +kernel
theorem dX11_seen_27 : decode cX11_seen 27 = .ok (.athrow, 1) := by decide +kernel
theorem dX11_seen_28 : decode cX11_seen 28 = .ok (.aload_n 0, 1) := by decide +kernel
theorem dX11_seen_29 : decode cX11_seen 29 = .ok (.getfield 71, 3) := by decide +kernel
theorem dX11_seen_32 : decode cX11_seen 32 = .ok (.iload_n 1, 1) := by decide +kernel
theorem dX11_seen_33 : decode cX11_seen 33 = .ok (.iload_n 2, 1) := by decide +kernel
theorem dX11_seen_34 : decode cX11_seen 34 = .ok (.invokevirtual 462, 3) := by decide +kernel
theorem dX11_seen_37 : decode cX11_seen 37 = .ok (.ireturn, 1) := by decide +kernel
theorem dX11_setTime_0 : decode cX11_setTime 0 = .ok (.aload_n 0, 1) := by decide +kernel
theorem dX11_setTime_1 : decode cX11_setTime 1 = .ok (.iload_n 1, 1) := by decide +kernel
theorem dX11_setTime_2 : decode cX11_setTime 2 = .ok (.invokevirtual 200, 3) := by decide +kernel
theorem dX11_setTime_5 : decode cX11_setTime 5 = .ok (.iload_n 2, 1) := by decide +kernel
theorem dX11_setTime_6 : decode cX11_setTime 6 = .ok (.iconst 1, 1) := by decide +kernel
theorem dX11_setTime_7 : decode cX11_setTime 7 = .ok (.bipush 99, 2) := by decide +kernel
theorem dX11_setTime_9 : decode cX11_setTime 9 = .ok (.invokestatic 361, 3) := by decide +kernel
theorem dX11_setTime_12 : decode cX11_setTime 12 = .ok (.aload_n 0, 1) := by decide +kernel
theorem dX11_setTime_13 : decode cX11_setTime 13 = .ok (.getfield 28, 3) := by decide +kernel
theorem dX11_setTime_16 : decode cX11_setTime 16 = .ok (.getfield 468, 3) := by decide +kernel
theorem dX11_setTime_19 : decode cX11_setTime 19 = .ok (.iload_n 1, 1) := by decide +kernel
theorem dX11_setTime_20 : decode cX11_setTime 20 = .ok (.iaload, 1) := by decide +kernel
theorem dX11_setTime_21 : decode cX11_setTime 21 = .ok (.istore_n 3, 1) := by decide +kernel
theorem dX11_setTime_22 : decode cX11_setTime 22 = .ok (.aload_n 0, 1) := by decide +kernel
theorem dX11_setTime_23 : decode cX11_setTime 23 = .ok (.getfield 28, 3) := by decide +kernel
theorem dX11_setTime_26 : decode cX11_setTime 26 = .ok (.getfield 468, 3) := by decide +kernel
theorem dX11_setTime_29 : decode cX11_setTime 29 = .ok (.iload_n 1, 1) := by decide +kernel
theorem dX11_setTime_30 : decode cX11_setTime 30 = .ok (.iload_n 2, 1) := by decide +kernel
theorem dX11_setTime_31 : decode cX11_setTime 31 = .ok (.iastore, 1) := by decide +kernel
theorem dX11_setTime_32 : decode cX11_setTime 32 = .ok (.iload_n 3, 1) := by decide +kernel
theorem dX11_setTime_33 : decode cX11_setTime 33 = .ok (.ireturn, 1) := by decide +kernel
theorem dX5_columnsLeft_0 : decode cX5_columnsLeft 0 = .ok (.iconst 0, 1) := by decide +kernel
theorem dX5_columnsLeft_1 : decode cX5_columnsLeft 1 = .ok (.istore_n 2, 1) := by decide +kernel
theorem dX5_columnsLeft_2 : decode cX5_columnsLeft 2 = .ok (.iconst 0, 1) := by decide +kernel
theorem dX5_columnsLeft_3 : decode cX5_columnsLeft 3 = .ok (.istore_n 3, 1) := by decide +kernel
theorem dX5_columnsLeft_4 : decode cX5_columnsLeft 4 = .ok (.iload_n 3, 1) := by decide +kernel
theorem dX5_columnsLeft_5 : decode cX5_columnsLeft 5 = .ok (.bipush 8, 2) := by decide +kernel
theorem dX5_columnsLeft_7 : decode cX5_columnsLeft 7 = .ok (.if_icmp .ge 26, 3) := by decide +kernel
theorem dX5_columnsLeft_10 : decode cX5_columnsLeft 10 = .ok (.iload_n 1, 1) := by decide +kernel
theorem dX5_columnsLeft_11 : decode cX5_columnsLeft 11 = .ok (.iload_n 3, 1) := by decide +kernel
theorem dX5_columnsLeft_12 : decode cX5_columnsLeft 12 = .ok (.ishr, 1) := by decide +kernel
theorem dX5_columnsLeft_13 : decode cX5_columnsLeft 13 = .ok (.iconst 1, 1) := by decide +kernel
theorem dX5_columnsLeft_14 : decode cX5_columnsLeft 14 = .ok (.iand, 1) := by decide +kernel
theorem dX5_columnsLeft_15 : decode cX5_columnsLeft 15 = .ok (.ifCond .ne 12, 3) := by decide +kernel
theorem dX5_columnsLeft_18 : decode cX5_columnsLeft 18 = .ok (.iload_n 2, 1) := by decide +kernel
theorem dX5_columnsLeft_19 : decode cX5_columnsLeft 19 = .ok (.aload_n 0, 1) := by decide +kernel
theorem dX5_columnsLeft_20 : decode cX5_columnsLeft 20 = .ok (.getfield 15, 3) := by decide +kernel
theorem dX5_columnsLeft_23 : decode cX5_columnsLeft 23 = .ok (.iload_n 3, 1) := by decide +kernel
theorem dX5_columnsLeft_24 : decode cX5_columnsLeft 24 = .ok (.iaload, 1) := by decide +kernel
theorem dX5_columnsLeft_25 : decode cX5_columnsLeft 25 = .ok (.ior, 1) := by decide +kernel
theorem dX5_columnsLeft_26 : decode cX5_columnsLeft 26 = .ok (.istore_n 2, 1) := by decide +kernel
theorem dX5_columnsLeft_27 : decode cX5_columnsLeft 27 = .ok (.iinc 3 1, 3) := by decide +kernel
theorem dX5_columnsLeft_30 : decode cX5_columnsLeft 30 = .ok (.goto (-26), 3) := by decide +kernel
theorem dX5_columnsLeft_33 : decode cX5_columnsLeft 33 = .ok (.iload_n 2, 1) := by decide +kernel
theorem dX5_columnsLeft_34 : decode cX5_columnsLeft 34 = .ok (.ireturn, 1) := by decide +kernel
theorem dX5_rowsToSpare_0 : decode cX5_rowsToSpare 0 = .ok (.iconst (-1), 1) := by decide +kernel
theorem dX5_rowsToSpare_1 : decode cX5_rowsToSpare 1 = .ok (.istore_n 3, 1) := by decide +kernel
theorem dX5_rowsToSpare_2 : decode cX5_rowsToSpare 2 = .ok (.bipush 17, 2) := by decide +kernel
theorem dX5_rowsToSpare_4 : decode cX5_rowsToSpare 4 = .ok (.istore 4, 2) := by decide +kernel
theorem dX5_rowsToSpare_6 : decode cX5_rowsToSpare 6 = .ok (.iconst 0, 1) := by decide +kernel
theorem dX5_rowsToSpare_7 : decode cX5_rowsToSpare 7 = .ok (.istore 5, 2) := by decide +kernel
theorem dX5_rowsToSpare_9 : decode cX5_rowsToSpare 9 = .ok (.iload 5, 2) := by decide +kernel
theorem dX5_rowsToSpare_11 : decode cX5_rowsToSpare 11 = .ok (.sipush 256, 3) := by decide +kernel
theorem dX5_rowsToSpare_14 : decode cX5_rowsToSpare 14 = .ok (.if_icmp .ge 59, 3) := by decide +kernel
theorem dX5_rowsToSpare_17 : decode cX5_rowsToSpare 17 = .ok (.iload 5, 2) := by decide +kernel
theorem dX5_rowsToSpare_19 : decode cX5_rowsToSpare 19 = .ok (.invokestatic 84, 3) := by decide +kernel
theorem dX5_rowsToSpare_22 : decode cX5_rowsToSpare 22 = .ok (.istore 6, 2) := by decide +kernel
theorem dX5_rowsToSpare_24 : decode cX5_rowsToSpare 24 = .ok (.aload_n 0, 1) := by decide +kernel
theorem dX5_rowsToSpare_25 : decode cX5_rowsToSpare 25 = .ok (.iload 5, 2) := by decide +kernel
theorem dX5_rowsToSpare_27 : decode cX5_rowsToSpare 27 = .ok (.invokevirtual 89, 3) := by decide +kernel
theorem dX5_rowsToSpare_30 : decode cX5_rowsToSpare 30 = .ok (.invokestatic 84, 3) := by decide +kernel
theorem dX5_rowsToSpare_33 : decode cX5_rowsToSpare 33 = .ok (.istore 7, 2) := by decide +kernel
theorem dX5_rowsToSpare_35 : decode cX5_rowsToSpare 35 = .ok (.iload 6, 2) := by decide +kernel
theorem dX5_rowsToSpare_37 : decode cX5_rowsToSpare 37 = .ok (.iload_n 1, 1) := by decide +kernel
theorem dX5_rowsToSpare_38 : decode cX5_rowsToSpare 38 = .ok (.if_icmp .gt 29, 3) := by decide +kernel
theorem dX5_rowsToSpare_41 : decode cX5_rowsToSpare 41 = .ok (.iload 7, 2) := by decide +kernel
theorem dX5_rowsToSpare_43 : decode cX5_rowsToSpare 43 = .ok (.iload_n 2, 1) := by decide +kernel
theorem dX5_rowsToSpare_44 : decode cX5_rowsToSpare 44 = .ok (.if_icmp .gt 23, 3) := by decide +kernel
theorem dX5_rowsToSpare_47 : decode cX5_rowsToSpare 47 = .ok (.iload 6, 2) := by decide +kernel
theorem dX5_rowsToSpare_49 : decode cX5_rowsToSpare 49 = .ok (.iload 7, 2) := by decide +kernel
theorem dX5_rowsToSpare_51 : decode cX5_rowsToSpare 51 = .ok (.iadd, 1) := by decide +kernel
theorem dX5_rowsToSpare_52 : decode cX5_rowsToSpare 52 = .ok (.iload 4, 2) := by decide +kernel
theorem dX5_rowsToSpare_54 : decode cX5_rowsToSpare 54 = .ok (.if_icmp .ge 13, 3) := by decide +kernel
theorem dX5_rowsToSpare_57 : decode cX5_rowsToSpare 57 = .ok (.iload 5, 2) := by decide +kernel
theorem dX5_rowsToSpare_59 : decode cX5_rowsToSpare 59 = .ok (.istore_n 3, 1) := by decide +kernel
theorem dX5_rowsToSpare_60 : decode cX5_rowsToSpare 60 = .ok (.iload 6, 2) := by decide +kernel
theorem dX5_rowsToSpare_62 : decode cX5_rowsToSpare 62 = .ok (.iload 7, 2) := by decide +kernel
theorem dX5_rowsToSpare_64 : decode cX5_rowsToSpare 64 = .ok (.iadd, 1) := by decide +kernel
theorem dX5_rowsToSpare_65 : decode cX5_rowsToSpare 65 = .ok (.istore 4, 2) := by decide +kernel
theorem dX5_rowsToSpare_67 : decode cX5_rowsToSpare 67 = .ok (.iinc 5 1, 3) := by decide +kernel
theorem dX5_rowsToSpare_70 : decode cX5_rowsToSpare 70 = .ok (.goto (-61), 3) := by decide +kernel
theorem dX5_rowsToSpare_73 : decode cX5_rowsToSpare 73 = .ok (.iload_n 3, 1) := by decide +kernel
theorem dX5_rowsToSpare_74 : decode cX5_rowsToSpare 74 = .ok (.ireturn, 1) := by decide +kernel
theorem dX6_allSources_0 : decode cX6_allSources 0 = .ok (.iconst 1, 1) := by decide +kernel
theorem dX6_allSources_1 : decode cX6_allSources 1 = .ok (.aload_n 0, 1) := by decide +kernel
theorem dX6_allSources_2 : decode cX6_allSources 2 = .ok (.getfield 72, 3) := by decide +kernel
theorem dX6_allSources_5 : decode cX6_allSources 5 = .ok (.ishl, 1) := by decide +kernel
theorem dX6_allSources_6 : decode cX6_allSources 6 = .ok (.iconst 1, 1) := by decide +kernel
theorem dX6_allSources_7 : decode cX6_allSources 7 = .ok (.isub, 1) := by decide +kernel
theorem dX6_allSources_8 : decode cX6_allSources 8 = .ok (.ireturn, 1) := by decide +kernel
theorem dX7_joinAll_0 : decode cX7_joinAll 0 = .ok (.iconst 0, 1) := by decide +kernel
theorem dX7_joinAll_1 : decode cX7_joinAll 1 = .ok (.istore_n 1, 1) := by decide +kernel
theorem dX7_joinAll_2 : decode cX7_joinAll 2 = .ok (.iconst 0, 1) := by decide +kernel
theorem dX7_joinAll_3 : decode cX7_joinAll 3 = .ok (.istore_n 2, 1) := by decide +kernel
theorem dX7_joinAll_4 : decode cX7_joinAll 4 = .ok (.iload_n 2, 1) := by decide +kernel
theorem dX7_joinAll_5 : decode cX7_joinAll 5 = .ok (.aload_n 0, 1) := by decide +kernel
theorem dX7_joinAll_6 : decode cX7_joinAll 6 = .ok (.getfield 27, 3) := by decide +kernel
theorem dX7_joinAll_9 : decode cX7_joinAll 9 = .ok (.if_icmp .ge 38, 3) := by decide +kernel
theorem dX7_joinAll_12 : decode cX7_joinAll 12 = .ok (.aload_n 0, 1) := by decide +kernel
theorem dX7_joinAll_13 : decode cX7_joinAll 13 = .ok (.iload_n 2, 1) := by decide +kernel
theorem dX7_joinAll_14 : decode cX7_joinAll 14 = .ok (.iload_n 1, 1) := by decide +kernel
theorem dX7_joinAll_15 : decode cX7_joinAll 15 = .ok (.invokevirtual 35, 3) := by decide +kernel
theorem dX7_joinAll_18 : decode cX7_joinAll 18 = .ok (.istore_n 3, 1) := by decide +kernel
theorem dX7_joinAll_19 : decode cX7_joinAll 19 = .ok (.iload_n 3, 1) := by decide +kernel
theorem dX7_joinAll_20 : decode cX7_joinAll 20 = .ok (.ifCond .lt 12, 3) := by decide +kernel
theorem dX7_joinAll_23 : decode cX7_joinAll 23 = .ok (.aload_n 0, 1) := by decide +kernel
theorem dX7_joinAll_24 : decode cX7_joinAll 24 = .ok (.iload_n 3, 1) := by decide +kernel
theorem dX7_joinAll_25 : decode cX7_joinAll 25 = .ok (.iload_n 2, 1) := by decide +kernel
theorem dX7_joinAll_26 : decode cX7_joinAll 26 = .ok (.invokevirtual 39, 3) := by decide +kernel
theorem dX7_joinAll_29 : decode cX7_joinAll 29 = .ok (.goto 12, 3) := by decide +kernel
theorem dX7_joinAll_32 : decode cX7_joinAll 32 = .ok (.aload_n 0, 1) := by decide +kernel
theorem dX7_joinAll_33 : decode cX7_joinAll 33 = .ok (.iload_n 2, 1) := by decide +kernel
theorem dX7_joinAll_34 : decode cX7_joinAll 34 = .ok (.iload_n 1, 1) := by decide +kernel
theorem dX7_joinAll_35 : decode cX7_joinAll 35 = .ok (.invokevirtual 31, 3) := by decide +kernel
theorem dX7_joinAll_38 : decode cX7_joinAll 38 = .ok (.iinc 1 1, 3) := by decide +kernel
theorem dX7_joinAll_41 : decode cX7_joinAll 41 = .ok (.iinc 2 1, 3) := by decide +kernel
theorem dX7_joinAll_44 : decode cX7_joinAll 44 = .ok (.goto (-40), 3) := by decide +kernel
theorem dX7_joinAll_47 : decode cX7_joinAll 47 = .ok (.aload_n 0, 1) := by decide +kernel
theorem dX7_joinAll_48 : decode cX7_joinAll 48 = .ok (.iload_n 1, 1) := by decide +kernel
theorem dX7_joinAll_49 : decode cX7_joinAll 49 = .ok (.putfield 27, 3) := by decide +kernel
theorem dX7_joinAll_52 : decode cX7_joinAll 52 = .ok (.return_, 1) := by decide +kernel
def zBits (p0 : Int32) : Int32 := (((((((p0 - (((p0.toUInt32 >>> ((1 : Int32).toUInt32 &&& Int32.toUInt32 31)).toInt32) &&& 1431655765)) &&& 858993459) + ((((p0 - (((p0.toUInt32 >>> ((1 : Int32).toUInt32 &&& Int32.toUInt32 31)).toInt32) &&& 1431655765)).toUInt32 >>> ((2 : Int32).toUInt32 &&& Int32.toUInt32 31)).toInt32) &&& 858993459)) + (((((p0 - (((p0.toUInt32 >>> ((1 : Int32).toUInt32 &&& Int32.toUInt32 31)).toInt32) &&& 1431655765)) &&& 858993459) + ((((p0 - (((p0.toUInt32 >>> ((1 : Int32).toUInt32 &&& Int32.toUInt32 31)).toInt32) &&& 1431655765)).toUInt32 >>> ((2 : Int32).toUInt32 &&& Int32.toUInt32 31)).toInt32) &&& 858993459)).toUInt32 >>> ((4 : Int32).toUInt32 &&& Int32.toUInt32 31)).toInt32)) &&& 252645135) + (((((((p0 - (((p0.toUInt32 >>> ((1 : Int32).toUInt32 &&& Int32.toUInt32 31)).toInt32) &&& 1431655765)) &&& 858993459) + ((((p0 - (((p0.toUInt32 >>> ((1 : Int32).toUInt32 &&& Int32.toUInt32 31)).toInt32) &&& 1431655765)).toUInt32 >>> ((2 : Int32).toUInt32 &&& Int32.toUInt32 31)).toInt32) &&& 858993459)) + (((((p0 - (((p0.toUInt32 >>> ((1 : Int32).toUInt32 &&& Int32.toUInt32 31)).toInt32) &&& 1431655765)) &&& 858993459) + ((((p0 - (((p0.toUInt32 >>> ((1 : Int32).toUInt32 &&& Int32.toUInt32 31)).toInt32) &&& 1431655765)).toUInt32 >>> ((2 : Int32).toUInt32 &&& Int32.toUInt32 31)).toInt32) &&& 858993459)).toUInt32 >>> ((4 : Int32).toUInt32 &&& Int32.toUInt32 31)).toInt32)) &&& 252645135).toUInt32 >>> ((8 : Int32).toUInt32 &&& Int32.toUInt32 31)).toInt32)) + ((((((((p0 - (((p0.toUInt32 >>> ((1 : Int32).toUInt32 &&& Int32.toUInt32 31)).toInt32) &&& 1431655765)) &&& 858993459) + ((((p0 - (((p0.toUInt32 >>> ((1 : Int32).toUInt32 &&& Int32.toUInt32 31)).toInt32) &&& 1431655765)).toUInt32 >>> ((2 : Int32).toUInt32 &&& Int32.toUInt32 31)).toInt32) &&& 858993459)) + (((((p0 - (((p0.toUInt32 >>> ((1 : Int32).toUInt32 &&& Int32.toUInt32 31)).toInt32) &&& 1431655765)) &&& 858993459) + ((((p0 - (((p0.toUInt32 >>> ((1 : Int32).toUInt32 &&& Int32.toUInt32 31)).toInt32) &&& 1431655765)).toUInt32 >>> ((2 : Int32).toUInt32 &&& Int32.toUInt32 31)).toInt32) &&& 858993459)).toUInt32 >>> ((4 : Int32).toUInt32 &&& Int32.toUInt32 31)).toInt32)) &&& 252645135) + (((((((p0 - (((p0.toUInt32 >>> ((1 : Int32).toUInt32 &&& Int32.toUInt32 31)).toInt32) &&& 1431655765)) &&& 858993459) + ((((p0 - (((p0.toUInt32 >>> ((1 : Int32).toUInt32 &&& Int32.toUInt32 31)).toInt32) &&& 1431655765)).toUInt32 >>> ((2 : Int32).toUInt32 &&& Int32.toUInt32 31)).toInt32) &&& 858993459)) + (((((p0 - (((p0.toUInt32 >>> ((1 : Int32).toUInt32 &&& Int32.toUInt32 31)).toInt32) &&& 1431655765)) &&& 858993459) + ((((p0 - (((p0.toUInt32 >>> ((1 : Int32).toUInt32 &&& Int32.toUInt32 31)).toInt32) &&& 1431655765)).toUInt32 >>> ((2 : Int32).toUInt32 &&& Int32.toUInt32 31)).toInt32) &&& 858993459)).toUInt32 >>> ((4 : Int32).toUInt32 &&& Int32.toUInt32 31)).toInt32)) &&& 252645135).toUInt32 >>> ((8 : Int32).toUInt32 &&& Int32.toUInt32 31)).toInt32)).toUInt32 >>> ((16 : Int32).toUInt32 &&& Int32.toUInt32 31)).toInt32)) &&& 63
theorem zBits_nn (x : Int32) : (0 : Int32) ≤ zBits x + 0 := by
  have h : ∀ y : Int32, (0 : Int32) ≤ y &&& 63 := by
    intro y
    obtain ⟨j, hj, e⟩ := pk_andE y (m := 63) 6 (by decide)
    rw [e]
    exact nI_le (Nat.zero_le j) (by omega)
  rw [Int32.add_zero]
  exact h _
theorem zB_nn (x : Int32) : ¬ zBits x < 0 := by
  have h := zBits_nn x
  rw [Int32.add_zero] at h
  exact Int32.not_lt.mpr h
theorem zB_neg {x y : Int32} (h : x < 0) (h2 : ¬ x < zBits y) : False := by
  have h3 := zBits_nn y
  rw [Int32.add_zero] at h3
  have a1 := Int32.lt_iff_toInt_lt.mp h
  have a2 := Int32.le_iff_toInt_le.mp h3
  exact h2 (Int32.lt_iff_toInt_lt.mpr (Int.lt_of_lt_of_le a1 a2))
set_option maxHeartbeats 4000000 in
set_option maxRecDepth 100000 in
theorem k_X7_joinAll (l : Launch) (D : va_G) (g : Nat → ClassId) (z0 sz : Nat) (a : Nat → Nat) : Met l yX7_joinAll (.code yX7_joinAll cX7_joinAll 4 none :: TG) (rmk 0 0 0 0) (va_Pc [.ref (a 3)] (PP D g z0 sz [((a 3), f_rows a)])) (va_Qv (fun (u : Unit) => True) (fun (u : Unit) (t : State) => va_P D vwCl [((a 3), .inr (13, [.ref (a 33), .ref (a 34), .ref (a 35), .ref (a 36), .ref (a 37), .int 0]))] t.heap ∧ va_D (va_A [((a 3), f_rows a)] sz) [((a 3), .inr (13, [.ref (a 33), .ref (a 34), .ref (a 35), .ref (a 36), .ref (a 37), .int 0]))]) (va_A [((a 3), f_rows a)] sz)) 0 0 (va_A [((a 3), f_rows a)] sz) := by
  refine met0 (cc := cX7_joinAll) (n := 4) (by decide) (Nat.le_of_ble_eq_true rfl) ?_
  intro p e s m args below meth c hx hb hr hml hown ht hlocks hnm hP0 hD0 hK hZ hsz hz ls hl
  subst hsz
  have hA : ∀ q : Nat, s.heap.size ≤ q → va_A [((a 3), f_rows a)] s.heap.size q := Anw
  have hAz : ∀ q, va_A [((a 3), f_rows a)] s.heap.size q → z0 ≤ q := Awz hz hD0
  have hS : va_S (va_A [((a 3), f_rows a)] s.heap.size) s.heap s.heap [] := va_S.rf
  have hD : va_D (va_A [((a 3), f_rows a)] s.heap.size) [((a 3), f_rows a)] := hD0.self
  have hP : va_P D vwCl [((a 3), f_rows a)] s.heap := hP0
  have hl : lv_has ls 4 [(0, .ref (a 3))] := hl
  refine lv_iconst (v := 0) hx hb dX7_joinAll_0 (by decide) ?_
  refine lv_istore_n (lv' := [(1, .int 0), (0, .ref (a 3))]) hx hb dX7_joinAll_1 rfl hl (by decide) rfl (fun ls hl => ?_)
  refine lv_iconst (v := 0) hx hb dX7_joinAll_2 (by decide) ?_
  refine lv_istore_n (lv' := [(2, .int 0), (1, .int 0), (0, .ref (a 3))]) hx hb dX7_joinAll_3 rfl hl (by decide) rfl (fun ls hl => ?_)
  refine lv_iload_n hx hb dX7_joinAll_4 rfl (lv_at hl 0 rfl) ?_
  refine lv_aload_n hx hb dX7_joinAll_5 rfl (lv_at hl 2 rfl) ?_
  refine va_get (D := D) (ci := 13) (v := .int 0) (C := RX7) (T := TX7) (N := 6) hx hb ht in_X7 hown hK.1 hP 0 rfl rfl 5 (by decide) (ht _ w_177) (fun _ h9 => h9) rfl dX7_joinAll_6 ?_
  refine lv_icmp_ge (tgt := 47) hx hb dX7_joinAll_9 (by decide) (fun c_1 => ?_) (fun c_1 => ?_)
  · refine lv_aload_n hx hb dX7_joinAll_47 rfl (lv_at hl 2 rfl) ?_
    refine lv_iload_n hx hb dX7_joinAll_48 rfl (lv_at hl 1 rfl) ?_
    refine va_put (D := D) (ci := 13) (v := .int 0) (ty := .int) (C := RX7) (T := TX7) (N := 6) hx hb ht in_X7 tyX7 tyX7_ok nmX7 hown hK.1 hP hD hS 0 rfl rfl 5 (by decide) (ht _ w_177) (fun _ h9 => h9) rfl (by decide +kernel) rfl rfl (Nat.le_of_ble_eq_true rfl) dX7_joinAll_49 (fun H locs hP hD hS => ?_)
    have hP : va_P D vwCl [((a 3), .inr (13, [.ref (a 33), .ref (a 34), .ref (a 35), .ref (a 36), .ref (a 37), .int 0]))] H := hP
    have hD : va_D (va_A [((a 3), f_rows a)] s.heap.size) [((a 3), .inr (13, [.ref (a 33), .ref (a 34), .ref (a 35), .ref (a 36), .ref (a 37), .int 0]))] := hD
    have hP9 := hP.sub (ws' := [((a 3), .inr (13, [.ref (a 33), .ref (a 34), .ref (a 35), .ref (a 36), .ref (a 37), .int 0]))]) [0] rfl
    have hD9 := hD.sub (ws' := [((a 3), .inr (13, [.ref (a 33), .ref (a 34), .ref (a 35), .ref (a 36), .ref (a 37), .int 0]))]) [0] (by decide) rfl
    refine W.widen (k := 0) (n := 0) (Nat.le_of_ble_eq_true rfl) (Nat.le_of_ble_eq_true rfl) ?_
    exact W.vret hx hb hr (fun t ht9 hW9 => ⟨⟨(), rfl, trivial, ⟨(by rw [ht9]; exact hP9), hD9⟩⟩, hS.F ht9⟩) hS.2.2 dX7_joinAll_52 hlocks
  · exact absurd c_1 (by decide)
set_option maxHeartbeats 4000000 in
set_option maxRecDepth 100000 in
theorem k_X11_mergeAll (l : Launch) (D : va_G) (g : Nat → ClassId) (z0 sz : Nat) (a : Nat → Nat) : Met l yX11_mergeAll (.code yX11_mergeAll cX11_mergeAll 1 (some .int) :: TG) (rmk 1 0 0 23) (va_Pc [.ref (a 0)] (PP D g z0 sz [((a 0), f_x a), ((a 3), f_rows a)])) (va_Qi (fun (r : Int32) (u : Unit) => (r = 0) ∧ True) (fun (u : Unit) (t : State) => va_P D vwCl [] t.heap ∧ va_D (va_A [((a 0), f_x a), ((a 3), f_rows a)] sz) []) (va_A [((a 0), f_x a), ((a 3), f_rows a)] sz)) 0 0 (va_A [((a 0), f_x a), ((a 3), f_rows a)] sz) := by
  refine met0 (cc := cX11_mergeAll) (n := 1) (by decide) (Nat.le_of_ble_eq_true rfl) ?_
  intro p e s m args below meth c hx hb hr hml hown ht hlocks hnm hP0 hD0 hK hZ hsz hz ls hl
  subst hsz
  have hA : ∀ q : Nat, s.heap.size ≤ q → va_A [((a 0), f_x a), ((a 3), f_rows a)] s.heap.size q := Anw
  have hAz : ∀ q, va_A [((a 0), f_x a), ((a 3), f_rows a)] s.heap.size q → z0 ≤ q := Awz hz hD0
  have hS : va_S (va_A [((a 0), f_x a), ((a 3), f_rows a)] s.heap.size) s.heap s.heap [] := va_S.rf
  have hD : va_D (va_A [((a 0), f_x a), ((a 3), f_rows a)] s.heap.size) [((a 0), f_x a), ((a 3), f_rows a)] := hD0.self
  have hP : va_P D vwCl [((a 0), f_x a), ((a 3), f_rows a)] s.heap := hP0
  have hl : lv_has ls 1 [(0, .ref (a 0))] := hl
  refine lv_aload_n hx hb dX11_mergeAll_0 rfl (lv_at hl 0 rfl) ?_
  refine va_get (D := D) (ci := 17) (v := .ref (a 3)) (C := RX11) (T := TX11) (N := 11) hx hb ht in_X11 hown hK.1 hP 0 rfl rfl 2 (by decide) (ht _ w_1) (fun _ h9 => h9) rfl dX11_mergeAll_1 ?_
  have hPc : va_P D vwCl [((a 3), f_rows a)] _ := hP.sub (ws' := [((a 3), f_rows a)]) [1] rfl
  have hDc : va_D (fun q => z0 ≤ q) [((a 3), f_rows a)] := (hD.to hAz).pick (ws' := [((a 3), f_rows a)]) [1] (by decide) rfl
  have hFc := va_free (wc := [((a 3), f_rows a)]) hD hS hA [1] rfl
  refine va_callv (va_runV (As := []) (rest := []) ⟨hx, hb, hml, hown, ht⟩ (k_X7_joinAll l D g z0 _ a) (cwV 0 ht (gV w_266 w_268 w_269 w_182 w_267) rfl rfl rfl (by decide +kernel) (le2 rfl rfl)) ⟨PP.blind, va_recv hK.1 hP (ci := 13) (q0 := 1) rfl rfl, PP.mk' hK hZ hz hAz hS hPc hDc⟩ rfl rfl hl.1 rfl (lv_room (Nat.le_of_ble_eq_true rfl)) dX11_mergeAll_4 (le2 rfl rfl)) hS (fun q _ h => hFc q h) hFc (fun u t H locs ht1 hvm hw hB hz1 hk1 hS => ?_)
  obtain ⟨hP1, hD1⟩ := hB
  rw [ht1] at hP1
  obtain ⟨hP, hD⟩ := va_join (wr := [((a 0), f_x a)]) (w1 := [((a 3), f_rows a)]) hP hD [1] [0] rfl rfl (by decide) (by decide) hk1 hFc hP1 hD1
  have hP : va_P D vwCl [((a 0), f_x a), ((a 3), f_rows a)] H := hP
  have hD : va_D (va_A [((a 0), f_x a), ((a 3), f_rows a)] s.heap.size) [((a 0), f_x a), ((a 3), f_rows a)] := hD
  refine lv_aload_n hx hb dX11_mergeAll_7 rfl (lv_at hl 0 rfl) ?_
  refine va_get (D := D) (ci := 17) (v := .ref (a 3)) (C := RX11) (T := TX11) (N := 11) hx hb ht in_X11 hown hK.1 hP 0 rfl rfl 2 (by decide) (ht _ w_1) (fun _ h9 => h9) rfl dX11_mergeAll_8 ?_
  refine va_get (D := D) (ci := 13) (v := .int 0) (C := RX7) (T := TX7) (N := 6) hx hb ht in_X7 hown hK.1 hP 1 rfl rfl 5 (by decide) (ht _ w_26) (fun _ h9 => h9) rfl dX11_mergeAll_11 ?_
  have hP9 := hP.sub (ws' := []) [] rfl
  have hD9 := hD.sub (ws' := []) [] (by decide) rfl
  refine W.widen (k := 0) (n := 0) (Nat.le_of_ble_eq_true rfl) (Nat.le_of_ble_eq_true rfl) ?_
  exact W.iret (v := 0) hx hb hr (fun t ht9 hW9 => ⟨⟨0, (), rfl, ⟨rfl, trivial⟩, ⟨(by rw [ht9]; exact hP9), hD9⟩⟩, hS.F ht9⟩) hS.2.2 dX11_mergeAll_14 hlocks
set_option maxHeartbeats 4000000 in
set_option maxRecDepth 100000 in
theorem k_X11_openWire (l : Launch) (hfl : l.stackTraces = false) (D : va_G) (g : Nat → ClassId) (z0 sz : Nat) (a : Nat → Nat) (p0 : Int32) (p1 : Int32) : vx_Met l yX11_openWire (.code yX11_openWire cX11_openWire 4 (some .boolean) :: TG) (rmk 7 1 6 102) (va_Pc [.ref (a 0), .int p0, .int p1] (PP D g z0 sz [((a 0), f_x a), ((a 10), f_wires a)])) (va_Qi (fun (r : Int32) (u : Unit) => False) (fun (_ : Unit) (_ : State) => True) (va_A [] sz)) (vx_X (fun _ : Unit => True) (fun E _ _ => (E = "java/lang/IndexOutOfBoundsException" ∧ True)) (va_A [] sz)) 1 6 (va_A [] sz) := by
  refine vxm0 (cc := cX11_openWire) (n := 4) (by decide) (Nat.le_of_ble_eq_true rfl) ?_
  intro p e s m args below meth c hx hb hr hml htab hown ht hlocks hnm hP0 hD0 hK hZ hsz hz ls hl
  subst hsz
  have hA : ∀ q : Nat, s.heap.size ≤ q → va_A [] s.heap.size q := Anw
  have hAz : ∀ q, va_A [] s.heap.size q → z0 ≤ q := A0z hz
  have hS : va_S (va_A [] s.heap.size) s.heap s.heap [] := va_S.rf
  have hl : lv_has ls 4 [(0, .ref (a 0)), (1, .int p0), (2, .int p1)] := hl
  refine lv_aload_n hx hb dX11_openWire_0 rfl (lv_at hl 0 rfl) ?_
  refine lv_iload_n hx hb dX11_openWire_1 rfl (lv_at hl 1 rfl) ?_
  have hPc : va_P D vwCl [((a 0), f_x a), ((a 10), f_wires a)] _ := (ro0 hP0 hS).sub (ws' := [((a 0), f_x a), ((a 10), f_wires a)]) [0, 1] rfl
  have hDc : va_D (fun q => z0 ≤ q) [((a 0), f_x a), ((a 10), f_wires a)] := hD0.pick (ws' := [((a 0), f_x a), ((a 10), f_wires a)]) [0, 1] (by decide) rfl
  have hFc := AnA (ws := []) hS.1
  refine vx_callv (vx_runV (As := [.int p0]) (rest := []) ⟨hx, hb, hml, hown, ht⟩ (k_X11_needWire l hfl D g z0 _ a p0) (cwV 1 ht (gV w_190 w_192 w_193 w_31 w_191) rfl rfl rfl (by decide +kernel) (le2 rfl rfl)) ⟨PP.blind, va_recv hK.1 (ro0 hP0 hS) (ci := 17) (q0 := 0) rfl rfl, PP.mk' hK hZ hz hAz hS hPc hDc⟩ rfl rfl hl.1 rfl (lv_room (Nat.le_of_ble_eq_true rfl)) dX11_openWire_2 (le2 rfl rfl)) hS (fun q _ h => hFc q h) hFc (fun q _ h => hFc q h) (fun E ce q9 u t H locs ht1 hvm hw hB hz1 hk1 hS hcell hv9 hcl => ?_) (fun u t H locs ht1 hvm hw hB hz1 hk1 hS => ?_)
  · obtain ⟨rfl, hB⟩ := hB
    exact out0 htab hlocks hS hcell hv9 hcl (fun t _ hF => ⟨(), trivial, ⟨rfl, trivial⟩, hF⟩) (fun _ h => h) rfl rfl
  · exact hw.elim
set_option maxHeartbeats 4000000 in
set_option maxRecDepth 100000 in
theorem k_X11_orderAt (l : Launch) (hfl : l.stackTraces = false) (D : va_G) (g : Nat → ClassId) (z0 sz : Nat) (a : Nat → Nat) (p0 : Int32) : vx_Met l yX11_orderAt (.code yX11_orderAt cX11_orderAt 2 (some .int) :: TG) (rmk 6 1 6 81) (va_Pc [.ref (a 0), .int p0] (PP D g z0 sz [((a 0), f_x a), ((a 3), f_rows a)])) (va_Qi (fun (r : Int32) (u : Unit) => False) (fun (_ : Unit) (_ : State) => True) (va_A [] sz)) (vx_X (fun _ : Unit => True) (fun E _ _ => (E = "java/util/NoSuchElementException" ∧ True)) (va_A [] sz)) 1 6 (va_A [] sz) := by
  refine vxm0 (cc := cX11_orderAt) (n := 2) (by decide) (Nat.le_of_ble_eq_true rfl) ?_
  intro p e s m args below meth c hx hb hr hml htab hown ht hlocks hnm hP0 hD0 hK hZ hsz hz ls hl
  subst hsz
  have hA : ∀ q : Nat, s.heap.size ≤ q → va_A [] s.heap.size q := Anw
  have hAz : ∀ q, va_A [] s.heap.size q → z0 ≤ q := A0z hz
  have hS : va_S (va_A [] s.heap.size) s.heap s.heap [] := va_S.rf
  have hl : lv_has ls 2 [(0, .ref (a 0)), (1, .int p0)] := hl
  refine lv_iload_n hx hb dX11_orderAt_0 rfl (lv_at hl 1 rfl) ?_
  refine lv_if_lt (tgt := 15) hx hb dX11_orderAt_1 (by decide) (fun c_1 => ?_) (fun c_1 => ?_)
  · exact thr0 hx hb hfl hown ht hK.2.2 hZ hAz hS hl hml htab hlocks (by decide +kernel) w_117 w_118 at_X11_312 dX11_orderAt_15 dX11_orderAt_18 dX11_orderAt_19 dX11_orderAt_22 rfl rfl rfl rfl (fun t _ hF => ⟨(), trivial, ⟨rfl, trivial⟩, hF⟩) (fun _ h => h) rfl rfl
  · refine lv_iload_n hx hb dX11_orderAt_4 rfl (lv_at hl 1 rfl) ?_
    refine lv_aload_n hx hb dX11_orderAt_5 rfl (lv_at hl 0 rfl) ?_
    refine va_get (D := D) (ci := 17) (v := .ref (a 3)) (C := RX11) (T := TX11) (N := 11) hx hb ht in_X11 hown hK.1 (ro0 hP0 hS) 0 rfl rfl 2 (by decide) (ht _ w_1) (fun _ h9 => h9) rfl dX11_orderAt_6 ?_
    refine va_get (D := D) (ci := 13) (v := .int 0) (C := RX7) (T := TX7) (N := 6) hx hb ht in_X7 hown hK.1 (ro0 hP0 hS) 1 rfl rfl 5 (by decide) (ht _ w_26) (fun _ h9 => h9) rfl dX11_orderAt_9 ?_
    refine lv_icmp_lt (tgt := 23) hx hb dX11_orderAt_12 (by decide) (fun c_2 => ?_) (fun c_2 => ?_)
    · exact absurd c_2 c_1
    · exact thr0 hx hb hfl hown ht hK.2.2 hZ hAz hS hl hml htab hlocks (by decide +kernel) w_117 w_118 at_X11_312 dX11_orderAt_15 dX11_orderAt_18 dX11_orderAt_19 dX11_orderAt_22 rfl rfl rfl rfl (fun t _ hF => ⟨(), trivial, ⟨rfl, trivial⟩, hF⟩) (fun _ h => h) rfl rfl
set_option maxHeartbeats 4000000 in
set_option maxRecDepth 100000 in
theorem k_X11_output (l : Launch) (hfl : l.stackTraces = false) (D : va_G) (g : Nat → ClassId) (z0 sz : Nat) (a : Nat → Nat) (p0 : Int32) : vx_Met l yX11_output (.code yX11_output cX11_output 3 (some .boolean) :: TG) (rmk 7 1 6 102) (va_Pc [.ref (a 0), .int p0] (PP D g z0 sz [((a 0), f_x a), ((a 1), f_net a)])) (va_Qi (fun (r : Int32) (u : Unit) => False) (fun (_ : Unit) (_ : State) => True) (va_A [] sz)) (vx_X (fun _ : Unit => True) (fun E _ _ => (E = "java/lang/IndexOutOfBoundsException" ∧ True)) (va_A [] sz)) 1 6 (va_A [] sz) := by
  refine vxm0 (cc := cX11_output) (n := 3) (by decide) (Nat.le_of_ble_eq_true rfl) ?_
  intro p e s m args below meth c hx hb hr hml htab hown ht hlocks hnm hP0 hD0 hK hZ hsz hz ls hl
  subst hsz
  have hA : ∀ q : Nat, s.heap.size ≤ q → va_A [] s.heap.size q := Anw
  have hAz : ∀ q, va_A [] s.heap.size q → z0 ≤ q := A0z hz
  have hS : va_S (va_A [] s.heap.size) s.heap s.heap [] := va_S.rf
  have hl : lv_has ls 3 [(0, .ref (a 0)), (1, .int p0)] := hl
  refine lv_aload_n hx hb dX11_output_0 rfl (lv_at hl 0 rfl) ?_
  refine lv_iload_n hx hb dX11_output_1 rfl (lv_at hl 1 rfl) ?_
  have hPc : va_P D vwCl [((a 0), f_x a), ((a 1), f_net a)] _ := (ro0 hP0 hS).sub (ws' := [((a 0), f_x a), ((a 1), f_net a)]) [0, 1] rfl
  have hDc : va_D (fun q => z0 ≤ q) [((a 0), f_x a), ((a 1), f_net a)] := hD0.pick (ws' := [((a 0), f_x a), ((a 1), f_net a)]) [0, 1] (by decide) rfl
  have hFc := AnA (ws := []) hS.1
  refine vx_callv (vx_runV (As := [.int p0]) (rest := []) ⟨hx, hb, hml, hown, ht⟩ (k_X11_needLine l hfl D g z0 _ a p0) (cwV 1 ht (gV w_80 w_82 w_83 w_31 w_81) rfl rfl rfl (by decide +kernel) (le2 rfl rfl)) ⟨PP.blind, va_recv hK.1 (ro0 hP0 hS) (ci := 17) (q0 := 0) rfl rfl, PP.mk' hK hZ hz hAz hS hPc hDc⟩ rfl rfl hl.1 rfl (lv_room (Nat.le_of_ble_eq_true rfl)) dX11_output_2 (le2 rfl rfl)) hS (fun q _ h => hFc q h) hFc (fun q _ h => hFc q h) (fun E ce q9 u t H locs ht1 hvm hw hB hz1 hk1 hS hcell hv9 hcl => ?_) (fun u t H locs ht1 hvm hw hB hz1 hk1 hS => ?_)
  · obtain ⟨rfl, hB⟩ := hB
    exact out0 htab hlocks hS hcell hv9 hcl (fun t _ hF => ⟨(), trivial, ⟨rfl, trivial⟩, hF⟩) (fun _ h => h) rfl rfl
  · exact hw.elim
set_option maxHeartbeats 4000000 in
set_option maxRecDepth 100000 in
theorem k_X6_allSources (l : Launch) (D : va_G) (g : Nat → ClassId) (z0 sz : Nat) (a : Nat → Nat) : Met l yX6_allSources (.code yX6_allSources cX6_allSources 1 (some .int) :: TG) (rmk 0 0 0 0) (va_Pc [.ref (a 1)] (PP D g z0 sz [((a 1), f_net a)])) (va_Qi (fun (r : Int32) (u : Unit) => (r = 0) ∧ True) (fun (_ : Unit) (_ : State) => True) (va_A [] sz)) 0 0 (va_A [] sz) := by
  refine met0 (cc := cX6_allSources) (n := 1) (by decide) (Nat.le_of_ble_eq_true rfl) ?_
  intro p e s m args below meth c hx hb hr hml hown ht hlocks hnm hP0 hD0 hK hZ hsz hz ls hl
  subst hsz
  have hA : ∀ q : Nat, s.heap.size ≤ q → va_A [] s.heap.size q := Anw
  have hAz : ∀ q, va_A [] s.heap.size q → z0 ≤ q := A0z hz
  have hS : va_S (va_A [] s.heap.size) s.heap s.heap [] := va_S.rf
  have hl : lv_has ls 1 [(0, .ref (a 1))] := hl
  refine lv_iconst (v := 1) hx hb dX6_allSources_0 (by decide) ?_
  refine lv_aload_n hx hb dX6_allSources_1 rfl (lv_at hl 0 rfl) ?_
  refine va_get (D := D) (ci := 12) (v := .int 0) (C := RX6) (T := TX6) (N := 18) hx hb ht in_X6 hown hK.1 (ro0 hP0 hS) 0 rfl rfl 13 (by decide) (ht _ w_128) (fun _ h9 => h9) rfl dX6_allSources_2 ?_
  refine lv_ishl hx hb dX6_allSources_5 ?_
  refine r_topi (v := 1) (by decide) ?_
  refine lv_iconst (v := 1) hx hb dX6_allSources_6 (by decide) ?_
  refine lv_isub hx hb dX6_allSources_7 ?_
  refine r_topi (v := 0) (by decide) ?_
  refine W.widen (k := 0) (n := 0) (Nat.le_of_ble_eq_true rfl) (Nat.le_of_ble_eq_true rfl) ?_
  exact W.iret (v := 0) hx hb hr (fun t ht9 hW9 => ⟨⟨0, (), rfl, ⟨rfl, trivial⟩, trivial⟩, hS.F ht9⟩) hS.2.2 dX6_allSources_8 hlocks
set_option maxHeartbeats 4000000 in
set_option maxRecDepth 100000 in
theorem k_X11_pattern (l : Launch) (hfl : l.stackTraces = false) (D : va_G) (g : Nat → ClassId) (z0 sz : Nat) (a : Nat → Nat) (p0 : Int32) (p1 : Int32) : vx_Met l yX11_pattern (.code yX11_pattern cX11_pattern 3 (some .int) :: TG) (rmk 7 1 6 101) (va_Pc [.ref (a 0), .int p0, .int p1] (PP D g z0 sz [((a 0), f_x a), ((a 1), f_net a)])) (va_Qi (fun (r : Int32) (u : Unit) => False) (fun (_ : Unit) (_ : State) => True) (va_A [] sz)) (vx_X (fun _ : Unit => True) (fun E _ _ => (E = "java/lang/IllegalArgumentException" ∧ ((¬ p0 = 0) ∨ ((p0 = 0) ∧ (¬ (p1 &&& (p0 ^^^ (-1))) = 0)))) ∨ (E = "java/lang/UnsupportedOperationException" ∧ ((p0 = 0) ∧ ((p1 &&& (p0 ^^^ (-1))) = 0) ∧ (p1 = 0)))) (va_A [] sz)) 1 6 (va_A [] sz) := by
  refine vxm0 (cc := cX11_pattern) (n := 3) (by decide) (Nat.le_of_ble_eq_true rfl) ?_
  intro p e s m args below meth c hx hb hr hml htab hown ht hlocks hnm hP0 hD0 hK hZ hsz hz ls hl
  subst hsz
  have hA : ∀ q : Nat, s.heap.size ≤ q → va_A [] s.heap.size q := Anw
  have hAz : ∀ q, va_A [] s.heap.size q → z0 ≤ q := A0z hz
  have hS : va_S (va_A [] s.heap.size) s.heap s.heap [] := va_S.rf
  have hl : lv_has ls 3 [(0, .ref (a 0)), (1, .int p0), (2, .int p1)] := hl
  refine lv_iload_n hx hb dX11_pattern_0 rfl (lv_at hl 1 rfl) ?_
  refine lv_aload_n hx hb dX11_pattern_1 rfl (lv_at hl 0 rfl) ?_
  refine va_get (D := D) (ci := 17) (v := .ref (a 1)) (C := RX11) (T := TX11) (N := 11) hx hb ht in_X11 hown hK.1 (ro0 hP0 hS) 0 rfl rfl 0 (by decide) (ht _ w_66) (fun _ h9 => h9) rfl dX11_pattern_2 ?_
  have hPc : va_P D vwCl [((a 1), f_net a)] _ := (ro0 hP0 hS).sub (ws' := [((a 1), f_net a)]) [1] rfl
  have hDc : va_D (fun q => z0 ≤ q) [((a 1), f_net a)] := hD0.pick (ws' := [((a 1), f_net a)]) [1] (by decide) rfl
  have hFc := AnA (ws := []) hS.1
  refine va_calli (va_runV (As := []) (rest := [.int p0]) ⟨hx, hb, hml, hown, ht⟩ (k_X6_allSources l D g z0 _ a) (cwV 0 ht (gV w_270 w_272 w_273 w_135 w_271) rfl rfl rfl (by decide +kernel) (le2 rfl rfl)) ⟨PP.blind, va_recv hK.1 (ro0 hP0 hS) (ci := 12) (q0 := 1) rfl rfl, PP.mk' hK hZ hz hAz hS hPc hDc⟩ rfl rfl hl.1 rfl (lv_room (Nat.le_of_ble_eq_true rfl)) dX11_pattern_5 (le2 rfl rfl)) hS (fun q _ h => hFc q h) hFc (fun r u t H locs ht1 hvm hw hB hz1 hk1 hS => ?_)
  obtain ⟨rfl, hw⟩ := hw
  refine lv_iconst (v := (-1)) hx hb dX11_pattern_8 (by decide) ?_
  refine lv_ixor hx hb dX11_pattern_9 ?_
  refine r_topi (v := (-1)) (by decide) ?_
  refine lv_iand hx hb dX11_pattern_10 ?_
  refine r_topi (v := p0) (and_m1 _) ?_
  refine lv_if_ne (tgt := 22) hx hb dX11_pattern_11 (by decide) (fun c_1 => ?_) (fun c_1 => ?_)
  · exact thr0 hx hb hfl hown ht hK.2.2 hZ hAz hS hl hml htab hlocks (by decide +kernel) w_41 w_42 at_X11_116 dX11_pattern_22 dX11_pattern_25 dX11_pattern_26 dX11_pattern_29 rfl rfl rfl rfl (fun t _ hF => ⟨(), trivial, (Or.inl ⟨rfl, (Or.inl c_1)⟩), hF⟩) (fun _ h => h) rfl rfl
  · refine lv_iload_n hx hb dX11_pattern_14 rfl (lv_at hl 2 rfl) ?_
    refine lv_iload_n hx hb dX11_pattern_15 rfl (lv_at hl 1 rfl) ?_
    refine lv_iconst (v := (-1)) hx hb dX11_pattern_16 (by decide) ?_
    refine lv_ixor hx hb dX11_pattern_17 ?_
    refine lv_iand hx hb dX11_pattern_18 ?_
    refine lv_if_eq (tgt := 30) hx hb dX11_pattern_19 (by decide) (fun c_2 => ?_) (fun c_2 => ?_)
    · refine lv_aload_n hx hb dX11_pattern_30 rfl (lv_at hl 0 rfl) ?_
      have hPc : va_P D vwCl [((a 0), f_x a), ((a 1), f_net a)] _ := (ro0 hP0 hS).sub (ws' := [((a 0), f_x a), ((a 1), f_net a)]) [0, 1] rfl
      have hDc : va_D (fun q => z0 ≤ q) [((a 0), f_x a), ((a 1), f_net a)] := hD0.pick (ws' := [((a 0), f_x a), ((a 1), f_net a)]) [0, 1] (by decide) rfl
      have hFc := AnA (ws := []) hS.1
      refine vx_callv (vx_runV (As := []) (rest := []) ⟨hx, hb, hml, hown, ht⟩ (k_X11_needClosedNet l hfl D g z0 _ a) (cwV 0 ht (gV w_71 w_73 w_74 w_31 w_72) rfl rfl rfl (by decide +kernel) (le2 rfl rfl)) ⟨PP.blind, va_recv hK.1 (ro0 hP0 hS) (ci := 17) (q0 := 0) rfl rfl, PP.mk' hK hZ hz hAz hS hPc hDc⟩ rfl rfl hl.1 rfl (lv_room (Nat.le_of_ble_eq_true rfl)) dX11_pattern_31 (le2 rfl rfl)) hS (fun q _ h => hFc q h) hFc (fun q _ h => hFc q h) (fun E ce q9 u t H locs ht1 hvm hw hB hz1 hk1 hS hcell hv9 hcl => ?_) (fun u t H locs ht1 hvm hw hB hz1 hk1 hS => ?_)
      · obtain ⟨rfl, hB⟩ := hB
        exact out0 htab hlocks hS hcell hv9 hcl (fun t _ hF => ⟨(), trivial, (Or.inr ⟨rfl, ⟨c_1, c_2, (ones0 c_1 c_2)⟩⟩), hF⟩) (fun _ h => h) rfl rfl
      · exact hw.elim
    · exact thr0 hx hb hfl hown ht hK.2.2 hZ hAz hS hl hml htab hlocks (by decide +kernel) w_41 w_42 at_X11_116 dX11_pattern_22 dX11_pattern_25 dX11_pattern_26 dX11_pattern_29 rfl rfl rfl rfl (fun t _ hF => ⟨(), trivial, (Or.inl ⟨rfl, (Or.inr ⟨c_1, c_2⟩)⟩), hF⟩) (fun _ h => h) rfl rfl
set_option maxHeartbeats 4000000 in
set_option maxRecDepth 100000 in
theorem k_X11_patterns (l : Launch) (D : va_G) (g : Nat → ClassId) (z0 sz : Nat) (a : Nat → Nat) : Met l yX11_patterns (.code yX11_patterns cX11_patterns 1 (some .int) :: TG) (rmk 0 0 0 0) (va_Pc [.ref (a 0)] (PP D g z0 sz [((a 0), f_x a), ((a 3), f_rows a)])) (va_Qi (fun (r : Int32) (u : Unit) => (r = 0) ∧ True) (fun (_ : Unit) (_ : State) => True) (va_A [] sz)) 0 0 (va_A [] sz) := by
  refine met0 (cc := cX11_patterns) (n := 1) (by decide) (Nat.le_of_ble_eq_true rfl) ?_
  intro p e s m args below meth c hx hb hr hml hown ht hlocks hnm hP0 hD0 hK hZ hsz hz ls hl
  subst hsz
  have hA : ∀ q : Nat, s.heap.size ≤ q → va_A [] s.heap.size q := Anw
  have hAz : ∀ q, va_A [] s.heap.size q → z0 ≤ q := A0z hz
  have hS : va_S (va_A [] s.heap.size) s.heap s.heap [] := va_S.rf
  have hl : lv_has ls 1 [(0, .ref (a 0))] := hl
  refine lv_aload_n hx hb dX11_patterns_0 rfl (lv_at hl 0 rfl) ?_
  refine va_get (D := D) (ci := 17) (v := .ref (a 3)) (C := RX11) (T := TX11) (N := 11) hx hb ht in_X11 hown hK.1 (ro0 hP0 hS) 0 rfl rfl 2 (by decide) (ht _ w_1) (fun _ h9 => h9) rfl dX11_patterns_1 ?_
  refine va_get (D := D) (ci := 13) (v := .int 0) (C := RX7) (T := TX7) (N := 6) hx hb ht in_X7 hown hK.1 (ro0 hP0 hS) 1 rfl rfl 5 (by decide) (ht _ w_26) (fun _ h9 => h9) rfl dX11_patterns_4 ?_
  refine W.widen (k := 0) (n := 0) (Nat.le_of_ble_eq_true rfl) (Nat.le_of_ble_eq_true rfl) ?_
  exact W.iret (v := 0) hx hb hr (fun t ht9 hW9 => ⟨⟨0, (), rfl, ⟨rfl, trivial⟩, trivial⟩, hS.F ht9⟩) hS.2.2 dX11_patterns_7 hlocks
set_option maxHeartbeats 4000000 in
set_option maxRecDepth 100000 in
theorem k_X11_pinOf (l : Launch) (hfl : l.stackTraces = false) (D : va_G) (g : Nat → ClassId) (z0 sz : Nat) (a : Nat → Nat) (p0 : Int32) : vx_Met l yX11_pinOf (.code yX11_pinOf cX11_pinOf 2 (some .int) :: TG) (rmk 7 1 6 102) (va_Pc [.ref (a 0), .int p0] (PP D g z0 sz [((a 0), f_x a), ((a 2), f_book a)])) (va_Qi (fun (r : Int32) (u : Unit) => False) (fun (_ : Unit) (_ : State) => True) (va_A [] sz)) (vx_X (fun _ : Unit => True) (fun E _ _ => (E = "java/lang/IndexOutOfBoundsException" ∧ True)) (va_A [] sz)) 1 6 (va_A [] sz) := by
  refine vxm0 (cc := cX11_pinOf) (n := 2) (by decide) (Nat.le_of_ble_eq_true rfl) ?_
  intro p e s m args below meth c hx hb hr hml htab hown ht hlocks hnm hP0 hD0 hK hZ hsz hz ls hl
  subst hsz
  have hA : ∀ q : Nat, s.heap.size ≤ q → va_A [] s.heap.size q := Anw
  have hAz : ∀ q, va_A [] s.heap.size q → z0 ≤ q := A0z hz
  have hS : va_S (va_A [] s.heap.size) s.heap s.heap [] := va_S.rf
  have hl : lv_has ls 2 [(0, .ref (a 0)), (1, .int p0)] := hl
  refine lv_aload_n hx hb dX11_pinOf_0 rfl (lv_at hl 0 rfl) ?_
  refine lv_iload_n hx hb dX11_pinOf_1 rfl (lv_at hl 1 rfl) ?_
  have hPc : va_P D vwCl [((a 0), f_x a), ((a 2), f_book a)] _ := (ro0 hP0 hS).sub (ws' := [((a 0), f_x a), ((a 2), f_book a)]) [0, 1] rfl
  have hDc : va_D (fun q => z0 ≤ q) [((a 0), f_x a), ((a 2), f_book a)] := hD0.pick (ws' := [((a 0), f_x a), ((a 2), f_book a)]) [0, 1] (by decide) rfl
  have hFc := AnA (ws := []) hS.1
  refine vx_callv (vx_runV (As := [.int p0]) (rest := []) ⟨hx, hb, hml, hown, ht⟩ (k_X11_needFault l hfl D g z0 _ a p0) (cwV 1 ht (gV w_37 w_39 w_40 w_31 w_38) rfl rfl rfl (by decide +kernel) (le2 rfl rfl)) ⟨PP.blind, va_recv hK.1 (ro0 hP0 hS) (ci := 17) (q0 := 0) rfl rfl, PP.mk' hK hZ hz hAz hS hPc hDc⟩ rfl rfl hl.1 rfl (lv_room (Nat.le_of_ble_eq_true rfl)) dX11_pinOf_2 (le2 rfl rfl)) hS (fun q _ h => hFc q h) hFc (fun q _ h => hFc q h) (fun E ce q9 u t H locs ht1 hvm hw hB hz1 hk1 hS hcell hv9 hcl => ?_) (fun u t H locs ht1 hvm hw hB hz1 hk1 hS => ?_)
  · obtain ⟨rfl, hB⟩ := hB
    exact out0 htab hlocks hS hcell hv9 hcl (fun t _ hF => ⟨(), trivial, ⟨rfl, trivial⟩, hF⟩) (fun _ h => h) rfl rfl
  · exact hw.elim
set_option maxHeartbeats 4000000 in
set_option maxRecDepth 100000 in
theorem k_X11_power (l : Launch) (hfl : l.stackTraces = false) (D : va_G) (g : Nat → ClassId) (z0 sz : Nat) (a : Nat → Nat) (p0 : Int32) : vx_Met l yX11_power (.code yX11_power cX11_power 2 (some .int) :: TG) (rmk 7 1 6 102) (va_Pc [.ref (a 0), .int p0] (PP D g z0 sz [((a 0), f_x a), ((a 3), f_rows a)])) (va_Qi (fun (r : Int32) (u : Unit) => False) (fun (_ : Unit) (_ : State) => True) (va_A [] sz)) (vx_X (fun _ : Unit => True) (fun E _ _ => (E = "java/lang/IndexOutOfBoundsException" ∧ True)) (va_A [] sz)) 1 6 (va_A [] sz) := by
  refine vxm0 (cc := cX11_power) (n := 2) (by decide) (Nat.le_of_ble_eq_true rfl) ?_
  intro p e s m args below meth c hx hb hr hml htab hown ht hlocks hnm hP0 hD0 hK hZ hsz hz ls hl
  subst hsz
  have hA : ∀ q : Nat, s.heap.size ≤ q → va_A [] s.heap.size q := Anw
  have hAz : ∀ q, va_A [] s.heap.size q → z0 ≤ q := A0z hz
  have hS : va_S (va_A [] s.heap.size) s.heap s.heap [] := va_S.rf
  have hl : lv_has ls 2 [(0, .ref (a 0)), (1, .int p0)] := hl
  refine lv_aload_n hx hb dX11_power_0 rfl (lv_at hl 0 rfl) ?_
  refine lv_iload_n hx hb dX11_power_1 rfl (lv_at hl 1 rfl) ?_
  have hPc : va_P D vwCl [((a 0), f_x a), ((a 3), f_rows a)] _ := (ro0 hP0 hS).sub (ws' := [((a 0), f_x a), ((a 3), f_rows a)]) [0, 1] rfl
  have hDc : va_D (fun q => z0 ≤ q) [((a 0), f_x a), ((a 3), f_rows a)] := hD0.pick (ws' := [((a 0), f_x a), ((a 3), f_rows a)]) [0, 1] (by decide) rfl
  have hFc := AnA (ws := []) hS.1
  refine vx_callv (vx_runV (As := [.int p0]) (rest := []) ⟨hx, hb, hml, hown, ht⟩ (k_X11_needPattern l hfl D g z0 _ a p0) (cwV 1 ht (gV w_183 w_185 w_186 w_31 w_184) rfl rfl rfl (by decide +kernel) (le2 rfl rfl)) ⟨PP.blind, va_recv hK.1 (ro0 hP0 hS) (ci := 17) (q0 := 0) rfl rfl, PP.mk' hK hZ hz hAz hS hPc hDc⟩ rfl rfl hl.1 rfl (lv_room (Nat.le_of_ble_eq_true rfl)) dX11_power_2 (le2 rfl rfl)) hS (fun q _ h => hFc q h) hFc (fun q _ h => hFc q h) (fun E ce q9 u t H locs ht1 hvm hw hB hz1 hk1 hS hcell hv9 hcl => ?_) (fun u t H locs ht1 hvm hw hB hz1 hk1 hS => ?_)
  · obtain ⟨rfl, hB⟩ := hB
    exact out0 htab hlocks hS hcell hv9 hcl (fun t _ hF => ⟨(), trivial, ⟨rfl, trivial⟩, hF⟩) (fun _ h => h) rfl rfl
  · exact hw.elim
set_option maxHeartbeats 4000000 in
set_option maxRecDepth 100000 in
theorem k_X11_record (l : Launch) (hfl : l.stackTraces = false) (D : va_G) (g : Nat → ClassId) (z0 sz : Nat) (a : Nat → Nat) : vx_Met l yX11_record (.code yX11_record cX11_record 2 (some .int) :: TG) (rmk 6 1 6 110) (va_Pc [.ref (a 0)] (PP D g z0 sz [((a 0), f_x a), ((a 8), f_chip a), ((a 3), f_rows a), ((a 4), f_words a), ((a 38), .inl (g 1, 12, .inr (.inl (fun _ => 0)))), ((a 39), .inl (g 1, 12, .inr (.inl (fun _ => 0)))), ((a 1), f_net a), ((a 2), f_book a)])) (va_Qi (fun (r : Int32) (u : Unit) => False) (fun (_ : Unit) (_ : State) => True) (va_A [((a 0), f_x a), ((a 8), f_chip a), ((a 3), f_rows a), ((a 4), f_words a), ((a 38), .inl (g 1, 12, .inr (.inl (fun _ => 0)))), ((a 39), .inl (g 1, 12, .inr (.inl (fun _ => 0)))), ((a 1), f_net a), ((a 2), f_book a)] sz)) (vx_X (fun _ : Unit => True) (fun E _ _ => (E = "java/util/NoSuchElementException" ∧ True)) (va_A [((a 0), f_x a), ((a 8), f_chip a), ((a 3), f_rows a), ((a 4), f_words a), ((a 38), .inl (g 1, 12, .inr (.inl (fun _ => 0)))), ((a 39), .inl (g 1, 12, .inr (.inl (fun _ => 0)))), ((a 1), f_net a), ((a 2), f_book a)] sz)) 1 6 (va_A [((a 0), f_x a), ((a 8), f_chip a), ((a 3), f_rows a), ((a 4), f_words a), ((a 38), .inl (g 1, 12, .inr (.inl (fun _ => 0)))), ((a 39), .inl (g 1, 12, .inr (.inl (fun _ => 0)))), ((a 1), f_net a), ((a 2), f_book a)] sz) := by
  refine vxm0 (cc := cX11_record) (n := 2) (by decide) (Nat.le_of_ble_eq_true rfl) ?_
  intro p e s m args below meth c hx hb hr hml htab hown ht hlocks hnm hP0 hD0 hK hZ hsz hz ls hl
  subst hsz
  have hA : ∀ q : Nat, s.heap.size ≤ q → va_A [((a 0), f_x a), ((a 8), f_chip a), ((a 3), f_rows a), ((a 4), f_words a), ((a 38), .inl (g 1, 12, .inr (.inl (fun _ => 0)))), ((a 39), .inl (g 1, 12, .inr (.inl (fun _ => 0)))), ((a 1), f_net a), ((a 2), f_book a)] s.heap.size q := Anw
  have hAz : ∀ q, va_A [((a 0), f_x a), ((a 8), f_chip a), ((a 3), f_rows a), ((a 4), f_words a), ((a 38), .inl (g 1, 12, .inr (.inl (fun _ => 0)))), ((a 39), .inl (g 1, 12, .inr (.inl (fun _ => 0)))), ((a 1), f_net a), ((a 2), f_book a)] s.heap.size q → z0 ≤ q := Awz hz hD0
  have hS : va_S (va_A [((a 0), f_x a), ((a 8), f_chip a), ((a 3), f_rows a), ((a 4), f_words a), ((a 38), .inl (g 1, 12, .inr (.inl (fun _ => 0)))), ((a 39), .inl (g 1, 12, .inr (.inl (fun _ => 0)))), ((a 1), f_net a), ((a 2), f_book a)] s.heap.size) s.heap s.heap [] := va_S.rf
  have hD : va_D (va_A [((a 0), f_x a), ((a 8), f_chip a), ((a 3), f_rows a), ((a 4), f_words a), ((a 38), .inl (g 1, 12, .inr (.inl (fun _ => 0)))), ((a 39), .inl (g 1, 12, .inr (.inl (fun _ => 0)))), ((a 1), f_net a), ((a 2), f_book a)] s.heap.size) [((a 0), f_x a), ((a 8), f_chip a), ((a 3), f_rows a), ((a 4), f_words a), ((a 38), .inl (g 1, 12, .inr (.inl (fun _ => 0)))), ((a 39), .inl (g 1, 12, .inr (.inl (fun _ => 0)))), ((a 1), f_net a), ((a 2), f_book a)] := hD0.self
  have hP : va_P D vwCl [((a 0), f_x a), ((a 8), f_chip a), ((a 3), f_rows a), ((a 4), f_words a), ((a 38), .inl (g 1, 12, .inr (.inl (fun _ => 0)))), ((a 39), .inl (g 1, 12, .inr (.inl (fun _ => 0)))), ((a 1), f_net a), ((a 2), f_book a)] s.heap := hP0
  have hl : lv_has ls 2 [(0, .ref (a 0))] := hl
  refine lv_aload_n hx hb dX11_record_0 rfl (lv_at hl 0 rfl) ?_
  refine va_get (D := D) (ci := 17) (v := .ref (a 8)) (C := RX11) (T := TX11) (N := 11) hx hb ht in_X11 hown hK.1 hP 0 rfl rfl 7 (by decide) (ht _ w_84) (fun _ h9 => h9) rfl dX11_record_1 ?_
  have hPc : va_P D vwCl [((a 8), f_chip a), ((a 3), f_rows a), ((a 4), f_words a), ((a 38), .inl (g 1, 12, .inr (.inl (fun _ => 0)))), ((a 39), .inl (g 1, 12, .inr (.inl (fun _ => 0)))), ((a 1), f_net a), ((a 2), f_book a)] _ := hP.sub (ws' := [((a 8), f_chip a), ((a 3), f_rows a), ((a 4), f_words a), ((a 38), .inl (g 1, 12, .inr (.inl (fun _ => 0)))), ((a 39), .inl (g 1, 12, .inr (.inl (fun _ => 0)))), ((a 1), f_net a), ((a 2), f_book a)]) [1, 2, 3, 4, 5, 6, 7] rfl
  have hDc : va_D (fun q => z0 ≤ q) [((a 8), f_chip a), ((a 3), f_rows a), ((a 4), f_words a), ((a 38), .inl (g 1, 12, .inr (.inl (fun _ => 0)))), ((a 39), .inl (g 1, 12, .inr (.inl (fun _ => 0)))), ((a 1), f_net a), ((a 2), f_book a)] := (hD.to hAz).pick (ws' := [((a 8), f_chip a), ((a 3), f_rows a), ((a 4), f_words a), ((a 38), .inl (g 1, 12, .inr (.inl (fun _ => 0)))), ((a 39), .inl (g 1, 12, .inr (.inl (fun _ => 0)))), ((a 1), f_net a), ((a 2), f_book a)]) [1, 2, 3, 4, 5, 6, 7] (by decide) rfl
  have hFc := va_free (wc := [((a 8), f_chip a), ((a 3), f_rows a), ((a 4), f_words a), ((a 38), .inl (g 1, 12, .inr (.inl (fun _ => 0)))), ((a 39), .inl (g 1, 12, .inr (.inl (fun _ => 0)))), ((a 1), f_net a), ((a 2), f_book a)]) hD hS hA [1, 2, 3, 4, 5, 6, 7] rfl
  refine va_callv (va_runV (As := []) (rest := []) ⟨hx, hb, hml, hown, ht⟩ (k_X1_compareAll l D g z0 _ a) (cwV 0 ht (gV w_109 w_111 w_112 w_106 w_110) rfl rfl rfl (by decide +kernel) (le2 rfl rfl)) ⟨PP.blind, va_recv hK.1 hP (ci := 7) (q0 := 1) rfl rfl, PP.mk' hK hZ hz hAz hS hPc hDc⟩ rfl rfl hl.1 rfl (lv_room (Nat.le_of_ble_eq_true rfl)) dX11_record_4 (le2 rfl rfl)) hS (fun q _ h => hFc q h) hFc (fun u t H locs ht1 hvm hw hB hz1 hk1 hS => ?_)
  obtain ⟨hP1, hD1⟩ := hB
  rw [ht1] at hP1
  obtain ⟨hP, hD⟩ := va_join (wr := [((a 0), f_x a)]) (w1 := [((a 2), f_book a), ((a 8), f_chip a), ((a 3), f_rows a), ((a 38), .inl (g 1, 12, .inr (.inl (fun _ => 0)))), ((a 39), .inl (g 1, 12, .inr (.inl (fun _ => 0)))), ((a 4), f_words a), ((a 1), f_net a)]) hP hD [1, 2, 3, 4, 5, 6, 7] [0] rfl rfl (by decide) (by decide) hk1 hFc hP1 hD1
  have hP : va_P D vwCl [((a 0), f_x a), ((a 2), f_book a), ((a 8), f_chip a), ((a 3), f_rows a), ((a 38), .inl (g 1, 12, .inr (.inl (fun _ => 0)))), ((a 39), .inl (g 1, 12, .inr (.inl (fun _ => 0)))), ((a 4), f_words a), ((a 1), f_net a)] H := hP
  have hD : va_D (va_A [((a 0), f_x a), ((a 8), f_chip a), ((a 3), f_rows a), ((a 4), f_words a), ((a 38), .inl (g 1, 12, .inr (.inl (fun _ => 0)))), ((a 39), .inl (g 1, 12, .inr (.inl (fun _ => 0)))), ((a 1), f_net a), ((a 2), f_book a)] s.heap.size) [((a 0), f_x a), ((a 2), f_book a), ((a 8), f_chip a), ((a 3), f_rows a), ((a 38), .inl (g 1, 12, .inr (.inl (fun _ => 0)))), ((a 39), .inl (g 1, 12, .inr (.inl (fun _ => 0)))), ((a 4), f_words a), ((a 1), f_net a)] := hD
  refine lv_aload_n hx hb dX11_record_7 rfl (lv_at hl 0 rfl) ?_
  refine va_get (D := D) (ci := 17) (v := .ref (a 8)) (C := RX11) (T := TX11) (N := 11) hx hb ht in_X11 hown hK.1 hP 0 rfl rfl 7 (by decide) (ht _ w_84) (fun _ h9 => h9) rfl dX11_record_8 ?_
  refine lv_iconst (v := 0) hx hb dX11_record_11 (by decide) ?_
  have hPc : va_P D vwCl [((a 8), f_chip a), ((a 2), f_book a)] _ := hP.sub (ws' := [((a 8), f_chip a), ((a 2), f_book a)]) [2, 1] rfl
  have hDc : va_D (fun q => z0 ≤ q) [((a 8), f_chip a), ((a 2), f_book a)] := (hD.to hAz).pick (ws' := [((a 8), f_chip a), ((a 2), f_book a)]) [2, 1] (by decide) rfl
  have hFc := AnA (ws := [((a 0), f_x a), ((a 8), f_chip a), ((a 3), f_rows a), ((a 4), f_words a), ((a 38), .inl (g 1, 12, .inr (.inl (fun _ => 0)))), ((a 39), .inl (g 1, 12, .inr (.inl (fun _ => 0)))), ((a 1), f_net a), ((a 2), f_book a)]) hS.1
  refine va_calli (va_runV (As := [.int 0]) (rest := []) ⟨hx, hb, hml, hown, ht⟩ (k_X1_candidateAt l D g z0 _ a 0) (cwV 1 ht (gV w_113 w_115 w_116 w_106 w_114) rfl rfl rfl (by decide +kernel) (le2 rfl rfl)) ⟨PP.blind, va_recv hK.1 hP (ci := 7) (q0 := 2) rfl rfl, PP.mk' hK hZ hz hAz hS hPc hDc⟩ rfl rfl hl.1 rfl (lv_room (Nat.le_of_ble_eq_true rfl)) dX11_record_12 (le2 rfl rfl)) hS (fun q _ h => hFc q h) hFc (fun r u t H locs ht1 hvm hw hB hz1 hk1 hS => ?_)
  obtain ⟨rfl, hw⟩ := hw
  have hP := ro1 hP hk1
  refine lv_istore_n (lv' := [(1, .int (-1)), (0, .ref (a 0))]) hx hb dX11_record_15 rfl hl (by decide) rfl (fun ls hl => ?_)
  refine lv_iload_n hx hb dX11_record_16 rfl (lv_at hl 0 rfl) ?_
  refine lv_if_ge (tgt := 28) hx hb dX11_record_17 (by decide) (fun c_1 => ?_) (fun c_1 => ?_)
  · exact absurd c_1 (by decide)
  · exact thr0 hx hb hfl hown ht hK.2.2 hZ hAz hS hl hml htab hlocks (by decide +kernel) w_117 w_118 at_X11_312 dX11_record_20 dX11_record_23 dX11_record_24 dX11_record_27 rfl rfl rfl rfl (fun t _ hF => ⟨(), trivial, ⟨rfl, trivial⟩, hF⟩) (fun _ h => h) rfl rfl
set_option maxHeartbeats 4000000 in
set_option maxRecDepth 100000 in
theorem k_J6_bitCount_0f7a4 (l : Launch) (D : va_G) (g : Nat → ClassId) (z0 sz : Nat) (a : Nat → Nat) : Met l yJ6_bitCount_0f7a4 (.code yJ6_bitCount_0f7a4 cJ6_bitCount_0f7a4 1 (some .int) :: TG) (rmk 0 0 0 0) (va_Pc [.int 0] (PP D g z0 sz [])) (va_Qi (fun (r : Int32) (u : Unit) => (r = 0) ∧ True) (fun (_ : Unit) (_ : State) => True) (va_A [] sz)) 0 0 (va_A [] sz) := by
  refine met0 (cc := cJ6_bitCount_0f7a4) (n := 1) (by decide) (Nat.le_of_ble_eq_true rfl) ?_
  intro p e s m args below meth c hx hb hr hml hown ht hlocks hnm hP0 hD0 hK hZ hsz hz ls hl
  subst hsz
  have hA : ∀ q : Nat, s.heap.size ≤ q → va_A [] s.heap.size q := Anw
  have hAz : ∀ q, va_A [] s.heap.size q → z0 ≤ q := A0z hz
  have hS : va_S (va_A [] s.heap.size) s.heap s.heap [] := va_S.rf
  have hl : lv_has ls 1 [(0, .int 0)] := hl
  refine lv_iload_n hx hb dJ6_bitCount_0f7a4_0 rfl (lv_at hl 0 rfl) ?_
  refine lv_iload_n hx hb dJ6_bitCount_0f7a4_1 rfl (lv_at hl 0 rfl) ?_
  refine lv_iconst (v := 1) hx hb dJ6_bitCount_0f7a4_2 (by decide) ?_
  refine lv_iushr (v := 0) hx hb dJ6_bitCount_0f7a4_3 (by decide) ?_
  refine lv_ldcw (v := 1431655765) hx hb hown (ht _ w_274) dJ6_bitCount_0f7a4_4 ?_
  refine lv_iand hx hb dJ6_bitCount_0f7a4_7 ?_
  refine r_topi (v := 0) (by decide) ?_
  refine lv_isub hx hb dJ6_bitCount_0f7a4_8 ?_
  refine r_topi (v := 0) (by decide) ?_
  refine lv_istore_n (lv' := [(0, .int 0)]) hx hb dJ6_bitCount_0f7a4_9 rfl hl (by decide) rfl (fun ls hl => ?_)
  refine lv_iload_n hx hb dJ6_bitCount_0f7a4_10 rfl (lv_at hl 0 rfl) ?_
  refine lv_ldcw (v := 858993459) hx hb hown (ht _ w_275) dJ6_bitCount_0f7a4_11 ?_
  refine lv_iand hx hb dJ6_bitCount_0f7a4_14 ?_
  refine r_topi (v := 0) (by decide) ?_
  refine lv_iload_n hx hb dJ6_bitCount_0f7a4_15 rfl (lv_at hl 0 rfl) ?_
  refine lv_iconst (v := 2) hx hb dJ6_bitCount_0f7a4_16 (by decide) ?_
  refine lv_iushr (v := 0) hx hb dJ6_bitCount_0f7a4_17 (by decide) ?_
  refine lv_ldcw (v := 858993459) hx hb hown (ht _ w_275) dJ6_bitCount_0f7a4_18 ?_
  refine lv_iand hx hb dJ6_bitCount_0f7a4_21 ?_
  refine r_topi (v := 0) (by decide) ?_
  refine lv_iadd hx hb dJ6_bitCount_0f7a4_22 ?_
  refine r_topi (v := 0) (by decide) ?_
  refine lv_istore_n (lv' := [(0, .int 0)]) hx hb dJ6_bitCount_0f7a4_23 rfl hl (by decide) rfl (fun ls hl => ?_)
  refine lv_iload_n hx hb dJ6_bitCount_0f7a4_24 rfl (lv_at hl 0 rfl) ?_
  refine lv_iload_n hx hb dJ6_bitCount_0f7a4_25 rfl (lv_at hl 0 rfl) ?_
  refine lv_iconst (v := 4) hx hb dJ6_bitCount_0f7a4_26 (by decide) ?_
  refine lv_iushr (v := 0) hx hb dJ6_bitCount_0f7a4_27 (by decide) ?_
  refine lv_iadd hx hb dJ6_bitCount_0f7a4_28 ?_
  refine r_topi (v := 0) (by decide) ?_
  refine lv_ldcw (v := 252645135) hx hb hown (ht _ w_276) dJ6_bitCount_0f7a4_29 ?_
  refine lv_iand hx hb dJ6_bitCount_0f7a4_32 ?_
  refine r_topi (v := 0) (by decide) ?_
  refine lv_istore_n (lv' := [(0, .int 0)]) hx hb dJ6_bitCount_0f7a4_33 rfl hl (by decide) rfl (fun ls hl => ?_)
  refine lv_iload_n hx hb dJ6_bitCount_0f7a4_34 rfl (lv_at hl 0 rfl) ?_
  refine lv_iload_n hx hb dJ6_bitCount_0f7a4_35 rfl (lv_at hl 0 rfl) ?_
  refine lv_bipush (v := 8) hx hb dJ6_bitCount_0f7a4_36 (by decide) ?_
  refine lv_iushr (v := 0) hx hb dJ6_bitCount_0f7a4_38 (by decide) ?_
  refine lv_iadd hx hb dJ6_bitCount_0f7a4_39 ?_
  refine r_topi (v := 0) (by decide) ?_
  refine lv_istore_n (lv' := [(0, .int 0)]) hx hb dJ6_bitCount_0f7a4_40 rfl hl (by decide) rfl (fun ls hl => ?_)
  refine lv_iload_n hx hb dJ6_bitCount_0f7a4_41 rfl (lv_at hl 0 rfl) ?_
  refine lv_iload_n hx hb dJ6_bitCount_0f7a4_42 rfl (lv_at hl 0 rfl) ?_
  refine lv_bipush (v := 16) hx hb dJ6_bitCount_0f7a4_43 (by decide) ?_
  refine lv_iushr (v := 0) hx hb dJ6_bitCount_0f7a4_45 (by decide) ?_
  refine lv_iadd hx hb dJ6_bitCount_0f7a4_46 ?_
  refine r_topi (v := 0) (by decide) ?_
  refine lv_istore_n (lv' := [(0, .int 0)]) hx hb dJ6_bitCount_0f7a4_47 rfl hl (by decide) rfl (fun ls hl => ?_)
  refine lv_iload_n hx hb dJ6_bitCount_0f7a4_48 rfl (lv_at hl 0 rfl) ?_
  refine lv_bipush (v := 63) hx hb dJ6_bitCount_0f7a4_49 (by decide) ?_
  refine lv_iand hx hb dJ6_bitCount_0f7a4_51 ?_
  refine r_topi (v := 0) (by decide) ?_
  refine W.widen (k := 0) (n := 0) (Nat.le_of_ble_eq_true rfl) (Nat.le_of_ble_eq_true rfl) ?_
  exact W.iret (v := 0) hx hb hr (fun t ht9 hW9 => ⟨⟨0, (), rfl, ⟨rfl, trivial⟩, trivial⟩, hS.F ht9⟩) hS.2.2 dJ6_bitCount_0f7a4_52 hlocks
set_option maxHeartbeats 4000000 in
set_option maxRecDepth 100000 in
theorem k_X5_columnsLeft (l : Launch) (D : va_G) (g : Nat → ClassId) (z0 sz : Nat) (a : Nat → Nat) (p0 : Int32) : Met l yX5_columnsLeft (.code yX5_columnsLeft cX5_columnsLeft 4 (some .int) :: TG) (rmk 0 0 0 0) (va_Pc [.ref (a 9), .int p0] (PP D g z0 sz [((a 9), f_memory a), ((a 60), .inl (g 0, 8, .inl (fun _ => 0)))])) (va_Qi (fun (r : Int32) (u : Unit) => (r = 0) ∧ True) (fun (_ : Unit) (_ : State) => True) (va_A [] sz)) 0 0 (va_A [] sz) := by
  refine met0 (cc := cX5_columnsLeft) (n := 4) (by decide) (Nat.le_of_ble_eq_true rfl) ?_
  intro p e s m args below meth c hx hb hr hml hown ht hlocks hnm hP0 hD0 hK hZ hsz hz ls hl
  subst hsz
  have hA : ∀ q : Nat, s.heap.size ≤ q → va_A [] s.heap.size q := Anw
  have hAz : ∀ q, va_A [] s.heap.size q → z0 ≤ q := A0z hz
  have hS : va_S (va_A [] s.heap.size) s.heap s.heap [] := va_S.rf
  have hl : lv_has ls 4 [(0, .ref (a 9)), (1, .int p0)] := hl
  refine lv_iconst (v := 0) hx hb dX5_columnsLeft_0 (by decide) ?_
  refine lv_istore_n (lv' := [(2, .int 0), (0, .ref (a 9)), (1, .int p0)]) hx hb dX5_columnsLeft_1 rfl hl (by decide) rfl (fun ls hl => ?_)
  refine lv_iconst (v := 0) hx hb dX5_columnsLeft_2 (by decide) ?_
  refine lv_istore_n (lv' := [(3, .int 0), (2, .int 0), (0, .ref (a 9)), (1, .int p0)]) hx hb dX5_columnsLeft_3 rfl hl (by decide) rfl (fun ls hl => ?_)
  have loop : ∀ (k i : Nat), 8 = i + k → ∀ (H : Heap) (locs : List Loc), va_S (va_A [] s.heap.size) s.heap H locs → ∀ (ls : Array Slot), lv_has ls 4 [(3, .int (nI i)), (2, .int 0), (0, .ref (a 9)), (1, .int p0)] → W p l e (rmk 0 0 0 0) s m args below meth c H locs 0 0 (MQ below (va_Qi (fun (r : Int32) (u : Unit) => (r = 0) ∧ True) (fun (_ : Unit) (_ : State) => True) (va_A [] s.heap.size)) args s 0 0 (va_A [] s.heap.size)) (F0 m 4 ls []) := by
    intro k
    induction k with
    | zero =>
      intro i hi H locs hS ls hl
      have hi0 : i = 8 := by omega
      refine lv_iload_n hx hb dX5_columnsLeft_4 rfl (lv_at hl 0 rfl) ?_
      refine lv_bipush (v := 8) hx hb dX5_columnsLeft_5 (by decide) ?_
      refine lv_icmp_ge (tgt := 33) hx hb dX5_columnsLeft_7 (by decide) (fun c_1 => ?_) (fun c_1 => absurd (by rw [hi0]; decide) c_1)
      refine lv_iload_n hx hb dX5_columnsLeft_33 rfl (lv_at hl 1 rfl) ?_
      refine W.widen (k := 0) (n := 0) (Nat.le_of_ble_eq_true rfl) (Nat.le_of_ble_eq_true rfl) ?_
      exact W.iret (v := 0) hx hb hr (fun t ht9 hW9 => ⟨⟨0, (), rfl, ⟨rfl, trivial⟩, trivial⟩, hS.F ht9⟩) hS.2.2 dX5_columnsLeft_34 hlocks
    | succ k ih =>
      intro i hi H locs hS ls hl
      have hlt : i < 8 := by omega
      refine lv_iload_n hx hb dX5_columnsLeft_4 rfl (lv_at hl 0 rfl) ?_
      refine lv_bipush (v := 8) hx hb dX5_columnsLeft_5 (by decide) ?_
      refine lv_icmp_ge (tgt := 33) hx hb dX5_columnsLeft_7 (by decide) (fun c_2 => absurd c_2 (nI_ge hlt (by decide))) (fun c_2 => ?_)
      refine lv_iload_n hx hb dX5_columnsLeft_10 rfl (lv_at hl 3 rfl) ?_
      refine lv_iload_n hx hb dX5_columnsLeft_11 rfl (lv_at hl 0 rfl) ?_
      refine lv_ishr hx hb dX5_columnsLeft_12 ?_
      refine lv_iconst (v := 1) hx hb dX5_columnsLeft_13 (by decide) ?_
      refine lv_iand hx hb dX5_columnsLeft_14 ?_
      refine lv_if_ne (tgt := 27) hx hb dX5_columnsLeft_15 (by decide) (fun c_3 => ?_) (fun c_3 => ?_)
      · refine lv_iinc (v := nI (i + 1)) (lv' := [(3, .int (nI (i + 1))), (2, .int 0), (0, .ref (a 9)), (1, .int p0)]) hx hb dX5_columnsLeft_27 hl (k := 0) rfl (nI_1 i) (by decide) rfl (fun ls hl => ?_)
        refine lv_goto (tgt := 4) hx hb dX5_columnsLeft_30 (by decide) ?_
        exact ih (i + 1) (by omega) H locs hS ls (lv_sub hl [0, 1, 2, 3] rfl)
      · refine lv_iload_n hx hb dX5_columnsLeft_18 rfl (lv_at hl 1 rfl) ?_
        refine lv_aload_n hx hb dX5_columnsLeft_19 rfl (lv_at hl 2 rfl) ?_
        refine va_get (D := D) (ci := 11) (v := .ref (a 60)) (C := RX5) (T := TX5) (N := 9) hx hb ht in_X5 hown hK.1 (ro0 hP0 hS) 0 rfl rfl 1 (by decide) (ht _ w_281) (fun _ h9 => h9) rfl dX5_columnsLeft_20 ?_
        refine lv_iload_n hx hb dX5_columnsLeft_23 rfl (lv_at hl 0 rfl) ?_
        refine va_iald hx hb hK.1 (ro0 hP0 hS) 1 0 rfl rfl (vp_in_nI (Nat.lt_of_lt_of_le hlt (by decide)) (by decide)) dX5_columnsLeft_24 ?_
        refine r_topi (v := 0) rfl ?_
        refine lv_ior hx hb dX5_columnsLeft_25 ?_
        refine r_topi (v := 0) (by decide) ?_
        refine lv_istore_n (lv' := [(2, .int 0), (3, .int (nI i)), (0, .ref (a 9)), (1, .int p0)]) hx hb dX5_columnsLeft_26 rfl hl (by decide) rfl (fun ls hl => ?_)
        refine lv_iinc (v := nI (i + 1)) (lv' := [(3, .int (nI (i + 1))), (2, .int 0), (0, .ref (a 9)), (1, .int p0)]) hx hb dX5_columnsLeft_27 hl (k := 1) rfl (nI_1 i) (by decide) rfl (fun ls hl => ?_)
        refine lv_goto (tgt := 4) hx hb dX5_columnsLeft_30 (by decide) ?_
        exact ih (i + 1) (by omega) H locs hS ls (lv_sub hl [0, 1, 2, 3] rfl)
  exact loop (8 - 0) 0 (by omega) _ _ hS ls (lv_sub hl [0, 1, 2, 3] rfl)
set_option maxHeartbeats 4000000 in
set_option maxRecDepth 100000 in
theorem k_J6_bitCount_0f7a4_v1 (l : Launch) (D : va_G) (g : Nat → ClassId) (z0 sz : Nat) (a : Nat → Nat) (p0 : Int32) : Met l yJ6_bitCount_0f7a4 (.code yJ6_bitCount_0f7a4 cJ6_bitCount_0f7a4 1 (some .int) :: TG) (rmk 0 0 0 0) (va_Pc [.int p0] (PP D g z0 sz [])) (va_Qi (fun (r : Int32) (u : Unit) => (r = zBits p0) ∧ True) (fun (_ : Unit) (_ : State) => True) (va_A [] sz)) 0 0 (va_A [] sz) := by
  refine met0 (cc := cJ6_bitCount_0f7a4) (n := 1) (by decide) (Nat.le_of_ble_eq_true rfl) ?_
  intro p e s m args below meth c hx hb hr hml hown ht hlocks hnm hP0 hD0 hK hZ hsz hz ls hl
  subst hsz
  have hA : ∀ q : Nat, s.heap.size ≤ q → va_A [] s.heap.size q := Anw
  have hAz : ∀ q, va_A [] s.heap.size q → z0 ≤ q := A0z hz
  have hS : va_S (va_A [] s.heap.size) s.heap s.heap [] := va_S.rf
  have hl : lv_has ls 1 [(0, .int p0)] := hl
  refine lv_iload_n hx hb dJ6_bitCount_0f7a4_0 rfl (lv_at hl 0 rfl) ?_
  refine lv_iload_n hx hb dJ6_bitCount_0f7a4_1 rfl (lv_at hl 0 rfl) ?_
  refine lv_iconst (v := 1) hx hb dJ6_bitCount_0f7a4_2 (by decide) ?_
  refine lv_iushr (v := (p0.toUInt32 >>> ((1 : Int32).toUInt32 &&& Int32.toUInt32 31)).toInt32) hx hb dJ6_bitCount_0f7a4_3 rfl ?_
  refine lv_ldcw (v := 1431655765) hx hb hown (ht _ w_274) dJ6_bitCount_0f7a4_4 ?_
  refine lv_iand hx hb dJ6_bitCount_0f7a4_7 ?_
  refine lv_isub hx hb dJ6_bitCount_0f7a4_8 ?_
  refine lv_istore_n (lv' := [(0, .int (p0 - (((p0.toUInt32 >>> ((1 : Int32).toUInt32 &&& Int32.toUInt32 31)).toInt32) &&& 1431655765)))]) hx hb dJ6_bitCount_0f7a4_9 rfl hl (by decide) rfl (fun ls hl => ?_)
  refine lv_iload_n hx hb dJ6_bitCount_0f7a4_10 rfl (lv_at hl 0 rfl) ?_
  refine lv_ldcw (v := 858993459) hx hb hown (ht _ w_275) dJ6_bitCount_0f7a4_11 ?_
  refine lv_iand hx hb dJ6_bitCount_0f7a4_14 ?_
  refine lv_iload_n hx hb dJ6_bitCount_0f7a4_15 rfl (lv_at hl 0 rfl) ?_
  refine lv_iconst (v := 2) hx hb dJ6_bitCount_0f7a4_16 (by decide) ?_
  refine lv_iushr (v := ((p0 - (((p0.toUInt32 >>> ((1 : Int32).toUInt32 &&& Int32.toUInt32 31)).toInt32) &&& 1431655765)).toUInt32 >>> ((2 : Int32).toUInt32 &&& Int32.toUInt32 31)).toInt32) hx hb dJ6_bitCount_0f7a4_17 rfl ?_
  refine lv_ldcw (v := 858993459) hx hb hown (ht _ w_275) dJ6_bitCount_0f7a4_18 ?_
  refine lv_iand hx hb dJ6_bitCount_0f7a4_21 ?_
  refine lv_iadd hx hb dJ6_bitCount_0f7a4_22 ?_
  refine lv_istore_n (lv' := [(0, .int (((p0 - (((p0.toUInt32 >>> ((1 : Int32).toUInt32 &&& Int32.toUInt32 31)).toInt32) &&& 1431655765)) &&& 858993459) + ((((p0 - (((p0.toUInt32 >>> ((1 : Int32).toUInt32 &&& Int32.toUInt32 31)).toInt32) &&& 1431655765)).toUInt32 >>> ((2 : Int32).toUInt32 &&& Int32.toUInt32 31)).toInt32) &&& 858993459)))]) hx hb dJ6_bitCount_0f7a4_23 rfl hl (by decide) rfl (fun ls hl => ?_)
  refine lv_iload_n hx hb dJ6_bitCount_0f7a4_24 rfl (lv_at hl 0 rfl) ?_
  refine lv_iload_n hx hb dJ6_bitCount_0f7a4_25 rfl (lv_at hl 0 rfl) ?_
  refine lv_iconst (v := 4) hx hb dJ6_bitCount_0f7a4_26 (by decide) ?_
  refine lv_iushr (v := ((((p0 - (((p0.toUInt32 >>> ((1 : Int32).toUInt32 &&& Int32.toUInt32 31)).toInt32) &&& 1431655765)) &&& 858993459) + ((((p0 - (((p0.toUInt32 >>> ((1 : Int32).toUInt32 &&& Int32.toUInt32 31)).toInt32) &&& 1431655765)).toUInt32 >>> ((2 : Int32).toUInt32 &&& Int32.toUInt32 31)).toInt32) &&& 858993459)).toUInt32 >>> ((4 : Int32).toUInt32 &&& Int32.toUInt32 31)).toInt32) hx hb dJ6_bitCount_0f7a4_27 rfl ?_
  refine lv_iadd hx hb dJ6_bitCount_0f7a4_28 ?_
  refine lv_ldcw (v := 252645135) hx hb hown (ht _ w_276) dJ6_bitCount_0f7a4_29 ?_
  refine lv_iand hx hb dJ6_bitCount_0f7a4_32 ?_
  refine lv_istore_n (lv' := [(0, .int (((((p0 - (((p0.toUInt32 >>> ((1 : Int32).toUInt32 &&& Int32.toUInt32 31)).toInt32) &&& 1431655765)) &&& 858993459) + ((((p0 - (((p0.toUInt32 >>> ((1 : Int32).toUInt32 &&& Int32.toUInt32 31)).toInt32) &&& 1431655765)).toUInt32 >>> ((2 : Int32).toUInt32 &&& Int32.toUInt32 31)).toInt32) &&& 858993459)) + (((((p0 - (((p0.toUInt32 >>> ((1 : Int32).toUInt32 &&& Int32.toUInt32 31)).toInt32) &&& 1431655765)) &&& 858993459) + ((((p0 - (((p0.toUInt32 >>> ((1 : Int32).toUInt32 &&& Int32.toUInt32 31)).toInt32) &&& 1431655765)).toUInt32 >>> ((2 : Int32).toUInt32 &&& Int32.toUInt32 31)).toInt32) &&& 858993459)).toUInt32 >>> ((4 : Int32).toUInt32 &&& Int32.toUInt32 31)).toInt32)) &&& 252645135))]) hx hb dJ6_bitCount_0f7a4_33 rfl hl (by decide) rfl (fun ls hl => ?_)
  refine lv_iload_n hx hb dJ6_bitCount_0f7a4_34 rfl (lv_at hl 0 rfl) ?_
  refine lv_iload_n hx hb dJ6_bitCount_0f7a4_35 rfl (lv_at hl 0 rfl) ?_
  refine lv_bipush (v := 8) hx hb dJ6_bitCount_0f7a4_36 (by decide) ?_
  refine lv_iushr (v := ((((((p0 - (((p0.toUInt32 >>> ((1 : Int32).toUInt32 &&& Int32.toUInt32 31)).toInt32) &&& 1431655765)) &&& 858993459) + ((((p0 - (((p0.toUInt32 >>> ((1 : Int32).toUInt32 &&& Int32.toUInt32 31)).toInt32) &&& 1431655765)).toUInt32 >>> ((2 : Int32).toUInt32 &&& Int32.toUInt32 31)).toInt32) &&& 858993459)) + (((((p0 - (((p0.toUInt32 >>> ((1 : Int32).toUInt32 &&& Int32.toUInt32 31)).toInt32) &&& 1431655765)) &&& 858993459) + ((((p0 - (((p0.toUInt32 >>> ((1 : Int32).toUInt32 &&& Int32.toUInt32 31)).toInt32) &&& 1431655765)).toUInt32 >>> ((2 : Int32).toUInt32 &&& Int32.toUInt32 31)).toInt32) &&& 858993459)).toUInt32 >>> ((4 : Int32).toUInt32 &&& Int32.toUInt32 31)).toInt32)) &&& 252645135).toUInt32 >>> ((8 : Int32).toUInt32 &&& Int32.toUInt32 31)).toInt32) hx hb dJ6_bitCount_0f7a4_38 rfl ?_
  refine lv_iadd hx hb dJ6_bitCount_0f7a4_39 ?_
  refine lv_istore_n (lv' := [(0, .int ((((((p0 - (((p0.toUInt32 >>> ((1 : Int32).toUInt32 &&& Int32.toUInt32 31)).toInt32) &&& 1431655765)) &&& 858993459) + ((((p0 - (((p0.toUInt32 >>> ((1 : Int32).toUInt32 &&& Int32.toUInt32 31)).toInt32) &&& 1431655765)).toUInt32 >>> ((2 : Int32).toUInt32 &&& Int32.toUInt32 31)).toInt32) &&& 858993459)) + (((((p0 - (((p0.toUInt32 >>> ((1 : Int32).toUInt32 &&& Int32.toUInt32 31)).toInt32) &&& 1431655765)) &&& 858993459) + ((((p0 - (((p0.toUInt32 >>> ((1 : Int32).toUInt32 &&& Int32.toUInt32 31)).toInt32) &&& 1431655765)).toUInt32 >>> ((2 : Int32).toUInt32 &&& Int32.toUInt32 31)).toInt32) &&& 858993459)).toUInt32 >>> ((4 : Int32).toUInt32 &&& Int32.toUInt32 31)).toInt32)) &&& 252645135) + (((((((p0 - (((p0.toUInt32 >>> ((1 : Int32).toUInt32 &&& Int32.toUInt32 31)).toInt32) &&& 1431655765)) &&& 858993459) + ((((p0 - (((p0.toUInt32 >>> ((1 : Int32).toUInt32 &&& Int32.toUInt32 31)).toInt32) &&& 1431655765)).toUInt32 >>> ((2 : Int32).toUInt32 &&& Int32.toUInt32 31)).toInt32) &&& 858993459)) + (((((p0 - (((p0.toUInt32 >>> ((1 : Int32).toUInt32 &&& Int32.toUInt32 31)).toInt32) &&& 1431655765)) &&& 858993459) + ((((p0 - (((p0.toUInt32 >>> ((1 : Int32).toUInt32 &&& Int32.toUInt32 31)).toInt32) &&& 1431655765)).toUInt32 >>> ((2 : Int32).toUInt32 &&& Int32.toUInt32 31)).toInt32) &&& 858993459)).toUInt32 >>> ((4 : Int32).toUInt32 &&& Int32.toUInt32 31)).toInt32)) &&& 252645135).toUInt32 >>> ((8 : Int32).toUInt32 &&& Int32.toUInt32 31)).toInt32)))]) hx hb dJ6_bitCount_0f7a4_40 rfl hl (by decide) rfl (fun ls hl => ?_)
  refine lv_iload_n hx hb dJ6_bitCount_0f7a4_41 rfl (lv_at hl 0 rfl) ?_
  refine lv_iload_n hx hb dJ6_bitCount_0f7a4_42 rfl (lv_at hl 0 rfl) ?_
  refine lv_bipush (v := 16) hx hb dJ6_bitCount_0f7a4_43 (by decide) ?_
  refine lv_iushr (v := (((((((p0 - (((p0.toUInt32 >>> ((1 : Int32).toUInt32 &&& Int32.toUInt32 31)).toInt32) &&& 1431655765)) &&& 858993459) + ((((p0 - (((p0.toUInt32 >>> ((1 : Int32).toUInt32 &&& Int32.toUInt32 31)).toInt32) &&& 1431655765)).toUInt32 >>> ((2 : Int32).toUInt32 &&& Int32.toUInt32 31)).toInt32) &&& 858993459)) + (((((p0 - (((p0.toUInt32 >>> ((1 : Int32).toUInt32 &&& Int32.toUInt32 31)).toInt32) &&& 1431655765)) &&& 858993459) + ((((p0 - (((p0.toUInt32 >>> ((1 : Int32).toUInt32 &&& Int32.toUInt32 31)).toInt32) &&& 1431655765)).toUInt32 >>> ((2 : Int32).toUInt32 &&& Int32.toUInt32 31)).toInt32) &&& 858993459)).toUInt32 >>> ((4 : Int32).toUInt32 &&& Int32.toUInt32 31)).toInt32)) &&& 252645135) + (((((((p0 - (((p0.toUInt32 >>> ((1 : Int32).toUInt32 &&& Int32.toUInt32 31)).toInt32) &&& 1431655765)) &&& 858993459) + ((((p0 - (((p0.toUInt32 >>> ((1 : Int32).toUInt32 &&& Int32.toUInt32 31)).toInt32) &&& 1431655765)).toUInt32 >>> ((2 : Int32).toUInt32 &&& Int32.toUInt32 31)).toInt32) &&& 858993459)) + (((((p0 - (((p0.toUInt32 >>> ((1 : Int32).toUInt32 &&& Int32.toUInt32 31)).toInt32) &&& 1431655765)) &&& 858993459) + ((((p0 - (((p0.toUInt32 >>> ((1 : Int32).toUInt32 &&& Int32.toUInt32 31)).toInt32) &&& 1431655765)).toUInt32 >>> ((2 : Int32).toUInt32 &&& Int32.toUInt32 31)).toInt32) &&& 858993459)).toUInt32 >>> ((4 : Int32).toUInt32 &&& Int32.toUInt32 31)).toInt32)) &&& 252645135).toUInt32 >>> ((8 : Int32).toUInt32 &&& Int32.toUInt32 31)).toInt32)).toUInt32 >>> ((16 : Int32).toUInt32 &&& Int32.toUInt32 31)).toInt32) hx hb dJ6_bitCount_0f7a4_45 rfl ?_
  refine lv_iadd hx hb dJ6_bitCount_0f7a4_46 ?_
  refine lv_istore_n (lv' := [(0, .int (((((((p0 - (((p0.toUInt32 >>> ((1 : Int32).toUInt32 &&& Int32.toUInt32 31)).toInt32) &&& 1431655765)) &&& 858993459) + ((((p0 - (((p0.toUInt32 >>> ((1 : Int32).toUInt32 &&& Int32.toUInt32 31)).toInt32) &&& 1431655765)).toUInt32 >>> ((2 : Int32).toUInt32 &&& Int32.toUInt32 31)).toInt32) &&& 858993459)) + (((((p0 - (((p0.toUInt32 >>> ((1 : Int32).toUInt32 &&& Int32.toUInt32 31)).toInt32) &&& 1431655765)) &&& 858993459) + ((((p0 - (((p0.toUInt32 >>> ((1 : Int32).toUInt32 &&& Int32.toUInt32 31)).toInt32) &&& 1431655765)).toUInt32 >>> ((2 : Int32).toUInt32 &&& Int32.toUInt32 31)).toInt32) &&& 858993459)).toUInt32 >>> ((4 : Int32).toUInt32 &&& Int32.toUInt32 31)).toInt32)) &&& 252645135) + (((((((p0 - (((p0.toUInt32 >>> ((1 : Int32).toUInt32 &&& Int32.toUInt32 31)).toInt32) &&& 1431655765)) &&& 858993459) + ((((p0 - (((p0.toUInt32 >>> ((1 : Int32).toUInt32 &&& Int32.toUInt32 31)).toInt32) &&& 1431655765)).toUInt32 >>> ((2 : Int32).toUInt32 &&& Int32.toUInt32 31)).toInt32) &&& 858993459)) + (((((p0 - (((p0.toUInt32 >>> ((1 : Int32).toUInt32 &&& Int32.toUInt32 31)).toInt32) &&& 1431655765)) &&& 858993459) + ((((p0 - (((p0.toUInt32 >>> ((1 : Int32).toUInt32 &&& Int32.toUInt32 31)).toInt32) &&& 1431655765)).toUInt32 >>> ((2 : Int32).toUInt32 &&& Int32.toUInt32 31)).toInt32) &&& 858993459)).toUInt32 >>> ((4 : Int32).toUInt32 &&& Int32.toUInt32 31)).toInt32)) &&& 252645135).toUInt32 >>> ((8 : Int32).toUInt32 &&& Int32.toUInt32 31)).toInt32)) + ((((((((p0 - (((p0.toUInt32 >>> ((1 : Int32).toUInt32 &&& Int32.toUInt32 31)).toInt32) &&& 1431655765)) &&& 858993459) + ((((p0 - (((p0.toUInt32 >>> ((1 : Int32).toUInt32 &&& Int32.toUInt32 31)).toInt32) &&& 1431655765)).toUInt32 >>> ((2 : Int32).toUInt32 &&& Int32.toUInt32 31)).toInt32) &&& 858993459)) + (((((p0 - (((p0.toUInt32 >>> ((1 : Int32).toUInt32 &&& Int32.toUInt32 31)).toInt32) &&& 1431655765)) &&& 858993459) + ((((p0 - (((p0.toUInt32 >>> ((1 : Int32).toUInt32 &&& Int32.toUInt32 31)).toInt32) &&& 1431655765)).toUInt32 >>> ((2 : Int32).toUInt32 &&& Int32.toUInt32 31)).toInt32) &&& 858993459)).toUInt32 >>> ((4 : Int32).toUInt32 &&& Int32.toUInt32 31)).toInt32)) &&& 252645135) + (((((((p0 - (((p0.toUInt32 >>> ((1 : Int32).toUInt32 &&& Int32.toUInt32 31)).toInt32) &&& 1431655765)) &&& 858993459) + ((((p0 - (((p0.toUInt32 >>> ((1 : Int32).toUInt32 &&& Int32.toUInt32 31)).toInt32) &&& 1431655765)).toUInt32 >>> ((2 : Int32).toUInt32 &&& Int32.toUInt32 31)).toInt32) &&& 858993459)) + (((((p0 - (((p0.toUInt32 >>> ((1 : Int32).toUInt32 &&& Int32.toUInt32 31)).toInt32) &&& 1431655765)) &&& 858993459) + ((((p0 - (((p0.toUInt32 >>> ((1 : Int32).toUInt32 &&& Int32.toUInt32 31)).toInt32) &&& 1431655765)).toUInt32 >>> ((2 : Int32).toUInt32 &&& Int32.toUInt32 31)).toInt32) &&& 858993459)).toUInt32 >>> ((4 : Int32).toUInt32 &&& Int32.toUInt32 31)).toInt32)) &&& 252645135).toUInt32 >>> ((8 : Int32).toUInt32 &&& Int32.toUInt32 31)).toInt32)).toUInt32 >>> ((16 : Int32).toUInt32 &&& Int32.toUInt32 31)).toInt32)))]) hx hb dJ6_bitCount_0f7a4_47 rfl hl (by decide) rfl (fun ls hl => ?_)
  refine lv_iload_n hx hb dJ6_bitCount_0f7a4_48 rfl (lv_at hl 0 rfl) ?_
  refine lv_bipush (v := 63) hx hb dJ6_bitCount_0f7a4_49 (by decide) ?_
  refine lv_iand hx hb dJ6_bitCount_0f7a4_51 ?_
  refine W.widen (k := 0) (n := 0) (Nat.le_of_ble_eq_true rfl) (Nat.le_of_ble_eq_true rfl) ?_
  exact W.iret (v := ((((((((p0 - (((p0.toUInt32 >>> ((1 : Int32).toUInt32 &&& Int32.toUInt32 31)).toInt32) &&& 1431655765)) &&& 858993459) + ((((p0 - (((p0.toUInt32 >>> ((1 : Int32).toUInt32 &&& Int32.toUInt32 31)).toInt32) &&& 1431655765)).toUInt32 >>> ((2 : Int32).toUInt32 &&& Int32.toUInt32 31)).toInt32) &&& 858993459)) + (((((p0 - (((p0.toUInt32 >>> ((1 : Int32).toUInt32 &&& Int32.toUInt32 31)).toInt32) &&& 1431655765)) &&& 858993459) + ((((p0 - (((p0.toUInt32 >>> ((1 : Int32).toUInt32 &&& Int32.toUInt32 31)).toInt32) &&& 1431655765)).toUInt32 >>> ((2 : Int32).toUInt32 &&& Int32.toUInt32 31)).toInt32) &&& 858993459)).toUInt32 >>> ((4 : Int32).toUInt32 &&& Int32.toUInt32 31)).toInt32)) &&& 252645135) + (((((((p0 - (((p0.toUInt32 >>> ((1 : Int32).toUInt32 &&& Int32.toUInt32 31)).toInt32) &&& 1431655765)) &&& 858993459) + ((((p0 - (((p0.toUInt32 >>> ((1 : Int32).toUInt32 &&& Int32.toUInt32 31)).toInt32) &&& 1431655765)).toUInt32 >>> ((2 : Int32).toUInt32 &&& Int32.toUInt32 31)).toInt32) &&& 858993459)) + (((((p0 - (((p0.toUInt32 >>> ((1 : Int32).toUInt32 &&& Int32.toUInt32 31)).toInt32) &&& 1431655765)) &&& 858993459) + ((((p0 - (((p0.toUInt32 >>> ((1 : Int32).toUInt32 &&& Int32.toUInt32 31)).toInt32) &&& 1431655765)).toUInt32 >>> ((2 : Int32).toUInt32 &&& Int32.toUInt32 31)).toInt32) &&& 858993459)).toUInt32 >>> ((4 : Int32).toUInt32 &&& Int32.toUInt32 31)).toInt32)) &&& 252645135).toUInt32 >>> ((8 : Int32).toUInt32 &&& Int32.toUInt32 31)).toInt32)) + ((((((((p0 - (((p0.toUInt32 >>> ((1 : Int32).toUInt32 &&& Int32.toUInt32 31)).toInt32) &&& 1431655765)) &&& 858993459) + ((((p0 - (((p0.toUInt32 >>> ((1 : Int32).toUInt32 &&& Int32.toUInt32 31)).toInt32) &&& 1431655765)).toUInt32 >>> ((2 : Int32).toUInt32 &&& Int32.toUInt32 31)).toInt32) &&& 858993459)) + (((((p0 - (((p0.toUInt32 >>> ((1 : Int32).toUInt32 &&& Int32.toUInt32 31)).toInt32) &&& 1431655765)) &&& 858993459) + ((((p0 - (((p0.toUInt32 >>> ((1 : Int32).toUInt32 &&& Int32.toUInt32 31)).toInt32) &&& 1431655765)).toUInt32 >>> ((2 : Int32).toUInt32 &&& Int32.toUInt32 31)).toInt32) &&& 858993459)).toUInt32 >>> ((4 : Int32).toUInt32 &&& Int32.toUInt32 31)).toInt32)) &&& 252645135) + (((((((p0 - (((p0.toUInt32 >>> ((1 : Int32).toUInt32 &&& Int32.toUInt32 31)).toInt32) &&& 1431655765)) &&& 858993459) + ((((p0 - (((p0.toUInt32 >>> ((1 : Int32).toUInt32 &&& Int32.toUInt32 31)).toInt32) &&& 1431655765)).toUInt32 >>> ((2 : Int32).toUInt32 &&& Int32.toUInt32 31)).toInt32) &&& 858993459)) + (((((p0 - (((p0.toUInt32 >>> ((1 : Int32).toUInt32 &&& Int32.toUInt32 31)).toInt32) &&& 1431655765)) &&& 858993459) + ((((p0 - (((p0.toUInt32 >>> ((1 : Int32).toUInt32 &&& Int32.toUInt32 31)).toInt32) &&& 1431655765)).toUInt32 >>> ((2 : Int32).toUInt32 &&& Int32.toUInt32 31)).toInt32) &&& 858993459)).toUInt32 >>> ((4 : Int32).toUInt32 &&& Int32.toUInt32 31)).toInt32)) &&& 252645135).toUInt32 >>> ((8 : Int32).toUInt32 &&& Int32.toUInt32 31)).toInt32)).toUInt32 >>> ((16 : Int32).toUInt32 &&& Int32.toUInt32 31)).toInt32)) &&& 63)) hx hb hr (fun t ht9 hW9 => ⟨⟨(((((((p0 - (((p0.toUInt32 >>> ((1 : Int32).toUInt32 &&& Int32.toUInt32 31)).toInt32) &&& 1431655765)) &&& 858993459) + ((((p0 - (((p0.toUInt32 >>> ((1 : Int32).toUInt32 &&& Int32.toUInt32 31)).toInt32) &&& 1431655765)).toUInt32 >>> ((2 : Int32).toUInt32 &&& Int32.toUInt32 31)).toInt32) &&& 858993459)) + (((((p0 - (((p0.toUInt32 >>> ((1 : Int32).toUInt32 &&& Int32.toUInt32 31)).toInt32) &&& 1431655765)) &&& 858993459) + ((((p0 - (((p0.toUInt32 >>> ((1 : Int32).toUInt32 &&& Int32.toUInt32 31)).toInt32) &&& 1431655765)).toUInt32 >>> ((2 : Int32).toUInt32 &&& Int32.toUInt32 31)).toInt32) &&& 858993459)).toUInt32 >>> ((4 : Int32).toUInt32 &&& Int32.toUInt32 31)).toInt32)) &&& 252645135) + (((((((p0 - (((p0.toUInt32 >>> ((1 : Int32).toUInt32 &&& Int32.toUInt32 31)).toInt32) &&& 1431655765)) &&& 858993459) + ((((p0 - (((p0.toUInt32 >>> ((1 : Int32).toUInt32 &&& Int32.toUInt32 31)).toInt32) &&& 1431655765)).toUInt32 >>> ((2 : Int32).toUInt32 &&& Int32.toUInt32 31)).toInt32) &&& 858993459)) + (((((p0 - (((p0.toUInt32 >>> ((1 : Int32).toUInt32 &&& Int32.toUInt32 31)).toInt32) &&& 1431655765)) &&& 858993459) + ((((p0 - (((p0.toUInt32 >>> ((1 : Int32).toUInt32 &&& Int32.toUInt32 31)).toInt32) &&& 1431655765)).toUInt32 >>> ((2 : Int32).toUInt32 &&& Int32.toUInt32 31)).toInt32) &&& 858993459)).toUInt32 >>> ((4 : Int32).toUInt32 &&& Int32.toUInt32 31)).toInt32)) &&& 252645135).toUInt32 >>> ((8 : Int32).toUInt32 &&& Int32.toUInt32 31)).toInt32)) + ((((((((p0 - (((p0.toUInt32 >>> ((1 : Int32).toUInt32 &&& Int32.toUInt32 31)).toInt32) &&& 1431655765)) &&& 858993459) + ((((p0 - (((p0.toUInt32 >>> ((1 : Int32).toUInt32 &&& Int32.toUInt32 31)).toInt32) &&& 1431655765)).toUInt32 >>> ((2 : Int32).toUInt32 &&& Int32.toUInt32 31)).toInt32) &&& 858993459)) + (((((p0 - (((p0.toUInt32 >>> ((1 : Int32).toUInt32 &&& Int32.toUInt32 31)).toInt32) &&& 1431655765)) &&& 858993459) + ((((p0 - (((p0.toUInt32 >>> ((1 : Int32).toUInt32 &&& Int32.toUInt32 31)).toInt32) &&& 1431655765)).toUInt32 >>> ((2 : Int32).toUInt32 &&& Int32.toUInt32 31)).toInt32) &&& 858993459)).toUInt32 >>> ((4 : Int32).toUInt32 &&& Int32.toUInt32 31)).toInt32)) &&& 252645135) + (((((((p0 - (((p0.toUInt32 >>> ((1 : Int32).toUInt32 &&& Int32.toUInt32 31)).toInt32) &&& 1431655765)) &&& 858993459) + ((((p0 - (((p0.toUInt32 >>> ((1 : Int32).toUInt32 &&& Int32.toUInt32 31)).toInt32) &&& 1431655765)).toUInt32 >>> ((2 : Int32).toUInt32 &&& Int32.toUInt32 31)).toInt32) &&& 858993459)) + (((((p0 - (((p0.toUInt32 >>> ((1 : Int32).toUInt32 &&& Int32.toUInt32 31)).toInt32) &&& 1431655765)) &&& 858993459) + ((((p0 - (((p0.toUInt32 >>> ((1 : Int32).toUInt32 &&& Int32.toUInt32 31)).toInt32) &&& 1431655765)).toUInt32 >>> ((2 : Int32).toUInt32 &&& Int32.toUInt32 31)).toInt32) &&& 858993459)).toUInt32 >>> ((4 : Int32).toUInt32 &&& Int32.toUInt32 31)).toInt32)) &&& 252645135).toUInt32 >>> ((8 : Int32).toUInt32 &&& Int32.toUInt32 31)).toInt32)).toUInt32 >>> ((16 : Int32).toUInt32 &&& Int32.toUInt32 31)).toInt32)) &&& 63, (), rfl, ⟨rfl, trivial⟩, trivial⟩, hS.F ht9⟩) hS.2.2 dJ6_bitCount_0f7a4_52 hlocks
set_option maxHeartbeats 4000000 in
set_option maxRecDepth 100000 in
theorem k_X5_rowsToSpare (l : Launch) (D : va_G) (g : Nat → ClassId) (z0 sz : Nat) (a : Nat → Nat) (p0 : Int32) (p1 : Int32) (hy0 : ¬ p0 < 0) (hy1 : ¬ p1 < 0) : Met l yX5_rowsToSpare (.code yX5_rowsToSpare cX5_rowsToSpare 8 (some .int) :: TG) (rmk 1 0 0 23) (va_Pc [.ref (a 9), .int p0, .int p1] (PP D g z0 sz [((a 9), f_memory a), ((a 60), .inl (g 0, 8, .inl (fun _ => 0)))])) (va_Qi (fun (r : Int32) (u : Unit) => (r = 0) ∧ True) (fun (_ : Unit) (_ : State) => True) (va_A [] sz)) 0 0 (va_A [] sz) := by
  refine met0 (cc := cX5_rowsToSpare) (n := 8) (by decide) (Nat.le_of_ble_eq_true rfl) ?_
  intro p e s m args below meth c hx hb hr hml hown ht hlocks hnm hP0 hD0 hK hZ hsz hz ls hl
  subst hsz
  have hA : ∀ q : Nat, s.heap.size ≤ q → va_A [] s.heap.size q := Anw
  have hAz : ∀ q, va_A [] s.heap.size q → z0 ≤ q := A0z hz
  have hS : va_S (va_A [] s.heap.size) s.heap s.heap [] := va_S.rf
  have hl : lv_has ls 8 [(0, .ref (a 9)), (1, .int p0), (2, .int p1)] := hl
  refine lv_iconst (v := (-1)) hx hb dX5_rowsToSpare_0 (by decide) ?_
  refine lv_istore_n (lv' := [(3, .int (-1)), (0, .ref (a 9)), (1, .int p0), (2, .int p1)]) hx hb dX5_rowsToSpare_1 rfl hl (by decide) rfl (fun ls hl => ?_)
  refine lv_bipush (v := 17) hx hb dX5_rowsToSpare_2 (by decide) ?_
  refine lv_istore (lv' := [(4, .int 17), (3, .int (-1)), (0, .ref (a 9)), (1, .int p0), (2, .int p1)]) hx hb dX5_rowsToSpare_4 hl (by decide) rfl (fun ls hl => ?_)
  refine lv_iconst (v := 0) hx hb dX5_rowsToSpare_6 (by decide) ?_
  refine lv_istore (lv' := [(5, .int 0), (4, .int 17), (3, .int (-1)), (0, .ref (a 9)), (1, .int p0), (2, .int p1)]) hx hb dX5_rowsToSpare_7 hl (by decide) rfl (fun ls hl => ?_)
  refine lv_iload hx hb dX5_rowsToSpare_9 (lv_at hl 0 rfl) ?_
  refine lv_sipush (v := 256) hx hb dX5_rowsToSpare_11 (by decide) ?_
  refine lv_icmp_ge (tgt := 73) hx hb dX5_rowsToSpare_14 (by decide) (fun c_1 => ?_) (fun c_1 => ?_)
  · exact absurd c_1 (by decide)
  · refine lv_iload hx hb dX5_rowsToSpare_17 (lv_at hl 0 rfl) ?_
    have hPc : va_P D vwCl [] _ := (ro0 hP0 hS).sub (ws' := []) [] rfl
    have hDc : va_D (fun q => z0 ≤ q) [] := hD0.pick (ws' := []) [] (by decide) rfl
    have hFc := AnA (ws := []) hS.1
    refine va_calli (va_runS (As := [.int 0]) (rest := []) ⟨hx, hb, hml, hown, ht⟩ (k_J6_bitCount_0f7a4 l D g z0 _ a) (va_cwS 1 ht (gS w_277 w_279 w_280 w_278) rfl rfl rfl (by decide +kernel) (le2 rfl rfl)) ⟨PP.blind, PP.mk' hK hZ hz hAz hS hPc hDc⟩ rfl rfl hl.1 rfl (lv_room (Nat.le_of_ble_eq_true rfl)) dX5_rowsToSpare_19 (le2 rfl rfl)) hS (fun q _ h => hFc q h) hFc (fun r u t H locs ht1 hvm hw hB hz1 hk1 hS => ?_)
    obtain ⟨rfl, hw⟩ := hw
    refine lv_istore (lv' := [(6, .int 0), (5, .int 0), (4, .int 17), (3, .int (-1)), (0, .ref (a 9)), (1, .int p0), (2, .int p1)]) hx hb dX5_rowsToSpare_22 hl (by decide) rfl (fun ls hl => ?_)
    refine lv_aload_n hx hb dX5_rowsToSpare_24 rfl (lv_at hl 4 rfl) ?_
    refine lv_iload hx hb dX5_rowsToSpare_25 (lv_at hl 1 rfl) ?_
    have hPc : va_P D vwCl [((a 9), f_memory a), ((a 60), .inl (g 0, 8, .inl (fun _ => 0)))] _ := (ro0 hP0 hS).sub (ws' := [((a 9), f_memory a), ((a 60), .inl (g 0, 8, .inl (fun _ => 0)))]) [0, 1] rfl
    have hDc : va_D (fun q => z0 ≤ q) [((a 9), f_memory a), ((a 60), .inl (g 0, 8, .inl (fun _ => 0)))] := hD0.pick (ws' := [((a 9), f_memory a), ((a 60), .inl (g 0, 8, .inl (fun _ => 0)))]) [0, 1] (by decide) rfl
    have hFc := AnA (ws := []) hS.1
    refine va_calli (va_runV (As := [.int 0]) (rest := []) ⟨hx, hb, hml, hown, ht⟩ (k_X5_columnsLeft l D g z0 _ a 0) (cwV 1 ht (gV w_282 w_284 w_285 w_220 w_283) rfl rfl rfl (by decide +kernel) (le2 rfl rfl)) ⟨PP.blind, va_recv hK.1 (ro0 hP0 hS) (ci := 11) (q0 := 0) rfl rfl, PP.mk' hK hZ hz hAz hS hPc hDc⟩ rfl rfl hl.1 rfl (lv_room (Nat.le_of_ble_eq_true rfl)) dX5_rowsToSpare_27 (le2 rfl rfl)) hS (fun q _ h => hFc q h) hFc (fun r u t H locs ht1 hvm hw hB hz1 hk1 hS => ?_)
    obtain ⟨rfl, hw⟩ := hw
    have hPc : va_P D vwCl [] _ := (ro0 hP0 hS).sub (ws' := []) [] rfl
    have hDc : va_D (fun q => z0 ≤ q) [] := hD0.pick (ws' := []) [] (by decide) rfl
    have hFc := AnA (ws := []) hS.1
    refine va_calli (va_runS (As := [.int 0]) (rest := []) ⟨hx, hb, hml, hown, ht⟩ (k_J6_bitCount_0f7a4 l D g z0 _ a) (va_cwS 1 ht (gS w_277 w_279 w_280 w_278) rfl rfl rfl (by decide +kernel) (le2 rfl rfl)) ⟨PP.blind, PP.mk' hK hZ hz hAz hS hPc hDc⟩ rfl rfl hl.1 rfl (lv_room (Nat.le_of_ble_eq_true rfl)) dX5_rowsToSpare_30 (le2 rfl rfl)) hS (fun q _ h => hFc q h) hFc (fun r u t H locs ht1 hvm hw hB hz1 hk1 hS => ?_)
    obtain ⟨rfl, hw⟩ := hw
    refine lv_istore (lv' := [(7, .int 0), (6, .int 0), (5, .int 0), (4, .int 17), (3, .int (-1)), (0, .ref (a 9)), (1, .int p0), (2, .int p1)]) hx hb dX5_rowsToSpare_33 hl (by decide) rfl (fun ls hl => ?_)
    refine lv_iload hx hb dX5_rowsToSpare_35 (lv_at hl 1 rfl) ?_
    refine lv_iload_n hx hb dX5_rowsToSpare_37 rfl (lv_at hl 6 rfl) ?_
    refine lv_icmp_gt (tgt := 67) hx hb dX5_rowsToSpare_38 (by decide) (fun c_2 => ?_) (fun c_2 => ?_)
    · exact absurd c_2 hy0
    · refine lv_iload hx hb dX5_rowsToSpare_41 (lv_at hl 0 rfl) ?_
      refine lv_iload_n hx hb dX5_rowsToSpare_43 rfl (lv_at hl 7 rfl) ?_
      refine lv_icmp_gt (tgt := 67) hx hb dX5_rowsToSpare_44 (by decide) (fun c_3 => ?_) (fun c_3 => ?_)
      · exact absurd c_3 hy1
      · refine lv_iload hx hb dX5_rowsToSpare_47 (lv_at hl 1 rfl) ?_
        refine lv_iload hx hb dX5_rowsToSpare_49 (lv_at hl 0 rfl) ?_
        refine lv_iadd hx hb dX5_rowsToSpare_51 ?_
        refine r_topi (v := 0) (by decide) ?_
        refine lv_iload hx hb dX5_rowsToSpare_52 (lv_at hl 3 rfl) ?_
        refine lv_icmp_ge (tgt := 67) hx hb dX5_rowsToSpare_54 (by decide) (fun c_4 => ?_) (fun c_4 => ?_)
        · exact absurd c_4 (by decide)
        · refine lv_iload hx hb dX5_rowsToSpare_57 (lv_at hl 2 rfl) ?_
          refine lv_istore_n (lv' := [(3, .int 0), (7, .int 0), (6, .int 0), (5, .int 0), (4, .int 17), (0, .ref (a 9)), (1, .int p0), (2, .int p1)]) hx hb dX5_rowsToSpare_59 rfl hl (by decide) rfl (fun ls hl => ?_)
          refine lv_iload hx hb dX5_rowsToSpare_60 (lv_at hl 2 rfl) ?_
          refine lv_iload hx hb dX5_rowsToSpare_62 (lv_at hl 1 rfl) ?_
          refine lv_iadd hx hb dX5_rowsToSpare_64 ?_
          refine r_topi (v := 0) (by decide) ?_
          refine lv_istore (lv' := [(4, .int 0), (3, .int 0), (7, .int 0), (6, .int 0), (5, .int 0), (0, .ref (a 9)), (1, .int p0), (2, .int p1)]) hx hb dX5_rowsToSpare_65 hl (by decide) rfl (fun ls hl => ?_)
          refine lv_iinc (v := 1) (lv' := [(5, .int 1), (4, .int 0), (3, .int 0), (7, .int 0), (6, .int 0), (0, .ref (a 9)), (1, .int p0), (2, .int p1)]) hx hb dX5_rowsToSpare_67 hl (k := 4) rfl (by decide) (by decide) rfl (fun ls hl => ?_)
          refine lv_goto (tgt := 9) hx hb dX5_rowsToSpare_70 (by decide) ?_
          have loop : ∀ (k i : Nat), 256 = i + k → ∀ (H : Heap) (locs : List Loc), va_S (va_A [] s.heap.size) s.heap H locs → ∀ (ls : Array Slot), lv_has ls 8 [(5, .int (nI i)), (3, .int 0), (4, .int 0), (0, .ref (a 9)), (1, .int p0), (2, .int p1)] → W p l e (rmk 1 0 0 23) s m args below meth c H locs 0 0 (MQ below (va_Qi (fun (r : Int32) (u : Unit) => (r = 0) ∧ True) (fun (_ : Unit) (_ : State) => True) (va_A [] s.heap.size)) args s 0 0 (va_A [] s.heap.size)) (F0 m 9 ls []) := by
            intro k
            induction k with
            | zero =>
              intro i hi H locs hS ls hl
              have hi0 : i = 256 := by omega
              refine lv_iload hx hb dX5_rowsToSpare_9 (lv_at hl 0 rfl) ?_
              refine lv_sipush (v := 256) hx hb dX5_rowsToSpare_11 (by decide) ?_
              refine lv_icmp_ge (tgt := 73) hx hb dX5_rowsToSpare_14 (by decide) (fun c_5 => ?_) (fun c_5 => absurd (by rw [hi0]; decide) c_5)
              refine lv_iload_n hx hb dX5_rowsToSpare_73 rfl (lv_at hl 1 rfl) ?_
              refine W.widen (k := 0) (n := 0) (Nat.le_of_ble_eq_true rfl) (Nat.le_of_ble_eq_true rfl) ?_
              exact W.iret (v := 0) hx hb hr (fun t ht9 hW9 => ⟨⟨0, (), rfl, ⟨rfl, trivial⟩, trivial⟩, hS.F ht9⟩) hS.2.2 dX5_rowsToSpare_74 hlocks
            | succ k ih =>
              intro i hi H locs hS ls hl
              have hlt : i < 256 := by omega
              refine lv_iload hx hb dX5_rowsToSpare_9 (lv_at hl 0 rfl) ?_
              refine lv_sipush (v := 256) hx hb dX5_rowsToSpare_11 (by decide) ?_
              refine lv_icmp_ge (tgt := 73) hx hb dX5_rowsToSpare_14 (by decide) (fun c_6 => absurd c_6 (nI_ge hlt (by decide))) (fun c_6 => ?_)
              refine lv_iload hx hb dX5_rowsToSpare_17 (lv_at hl 0 rfl) ?_
              have hPc : va_P D vwCl [] _ := (ro0 hP0 hS).sub (ws' := []) [] rfl
              have hDc : va_D (fun q => z0 ≤ q) [] := hD0.pick (ws' := []) [] (by decide) rfl
              have hFc := AnA (ws := []) hS.1
              refine va_calli (va_runS (As := [.int (nI i)]) (rest := []) ⟨hx, hb, hml, hown, ht⟩ (k_J6_bitCount_0f7a4_v1 l D g z0 _ a (nI i)) (va_cwS 1 ht (gS w_277 w_279 w_280 w_278) rfl rfl rfl (by decide +kernel) (le2 rfl rfl)) ⟨PP.blind, PP.mk' hK hZ hz hAz hS hPc hDc⟩ rfl rfl hl.1 rfl (lv_room (Nat.le_of_ble_eq_true rfl)) dX5_rowsToSpare_19 (le2 rfl rfl)) hS (fun q _ h => hFc q h) hFc (fun r u t H locs ht1 hvm hw hB hz1 hk1 hS => ?_)
              obtain ⟨rfl, hw⟩ := hw
              refine lv_istore (lv' := [(6, .int (zBits (nI i))), (5, .int (nI i)), (3, .int 0), (4, .int 0), (0, .ref (a 9)), (1, .int p0), (2, .int p1)]) hx hb dX5_rowsToSpare_22 hl (by decide) rfl (fun ls hl => ?_)
              refine lv_aload_n hx hb dX5_rowsToSpare_24 rfl (lv_at hl 4 rfl) ?_
              refine lv_iload hx hb dX5_rowsToSpare_25 (lv_at hl 1 rfl) ?_
              have hPc : va_P D vwCl [((a 9), f_memory a), ((a 60), .inl (g 0, 8, .inl (fun _ => 0)))] _ := (ro0 hP0 hS).sub (ws' := [((a 9), f_memory a), ((a 60), .inl (g 0, 8, .inl (fun _ => 0)))]) [0, 1] rfl
              have hDc : va_D (fun q => z0 ≤ q) [((a 9), f_memory a), ((a 60), .inl (g 0, 8, .inl (fun _ => 0)))] := hD0.pick (ws' := [((a 9), f_memory a), ((a 60), .inl (g 0, 8, .inl (fun _ => 0)))]) [0, 1] (by decide) rfl
              have hFc := AnA (ws := []) hS.1
              refine va_calli (va_runV (As := [.int (nI i)]) (rest := []) ⟨hx, hb, hml, hown, ht⟩ (k_X5_columnsLeft l D g z0 _ a (nI i)) (cwV 1 ht (gV w_282 w_284 w_285 w_220 w_283) rfl rfl rfl (by decide +kernel) (le2 rfl rfl)) ⟨PP.blind, va_recv hK.1 (ro0 hP0 hS) (ci := 11) (q0 := 0) rfl rfl, PP.mk' hK hZ hz hAz hS hPc hDc⟩ rfl rfl hl.1 rfl (lv_room (Nat.le_of_ble_eq_true rfl)) dX5_rowsToSpare_27 (le2 rfl rfl)) hS (fun q _ h => hFc q h) hFc (fun r u t H locs ht1 hvm hw hB hz1 hk1 hS => ?_)
              obtain ⟨rfl, hw⟩ := hw
              have hPc : va_P D vwCl [] _ := (ro0 hP0 hS).sub (ws' := []) [] rfl
              have hDc : va_D (fun q => z0 ≤ q) [] := hD0.pick (ws' := []) [] (by decide) rfl
              have hFc := AnA (ws := []) hS.1
              refine va_calli (va_runS (As := [.int 0]) (rest := []) ⟨hx, hb, hml, hown, ht⟩ (k_J6_bitCount_0f7a4 l D g z0 _ a) (va_cwS 1 ht (gS w_277 w_279 w_280 w_278) rfl rfl rfl (by decide +kernel) (le2 rfl rfl)) ⟨PP.blind, PP.mk' hK hZ hz hAz hS hPc hDc⟩ rfl rfl hl.1 rfl (lv_room (Nat.le_of_ble_eq_true rfl)) dX5_rowsToSpare_30 (le2 rfl rfl)) hS (fun q _ h => hFc q h) hFc (fun r u t H locs ht1 hvm hw hB hz1 hk1 hS => ?_)
              obtain ⟨rfl, hw⟩ := hw
              refine lv_istore (lv' := [(7, .int 0), (6, .int (zBits (nI i))), (5, .int (nI i)), (3, .int 0), (4, .int 0), (0, .ref (a 9)), (1, .int p0), (2, .int p1)]) hx hb dX5_rowsToSpare_33 hl (by decide) rfl (fun ls hl => ?_)
              refine lv_iload hx hb dX5_rowsToSpare_35 (lv_at hl 1 rfl) ?_
              refine lv_iload_n hx hb dX5_rowsToSpare_37 rfl (lv_at hl 6 rfl) ?_
              refine lv_icmp_gt (tgt := 67) hx hb dX5_rowsToSpare_38 (by decide) (fun c_7 => ?_) (fun c_7 => ?_)
              · refine lv_iinc (v := nI (i + 1)) (lv' := [(5, .int (nI (i + 1))), (7, .int 0), (6, .int (zBits (nI i))), (3, .int 0), (4, .int 0), (0, .ref (a 9)), (1, .int p0), (2, .int p1)]) hx hb dX5_rowsToSpare_67 hl (k := 2) rfl (nI_1 i) (by decide) rfl (fun ls hl => ?_)
                refine lv_goto (tgt := 9) hx hb dX5_rowsToSpare_70 (by decide) ?_
                exact ih (i + 1) (by omega) H locs hS ls (lv_sub hl [0, 3, 4, 5, 6, 7] rfl)
              · refine lv_iload hx hb dX5_rowsToSpare_41 (lv_at hl 0 rfl) ?_
                refine lv_iload_n hx hb dX5_rowsToSpare_43 rfl (lv_at hl 7 rfl) ?_
                refine lv_icmp_gt (tgt := 67) hx hb dX5_rowsToSpare_44 (by decide) (fun c_8 => ?_) (fun c_8 => ?_)
                · exact absurd c_8 hy1
                · refine lv_iload hx hb dX5_rowsToSpare_47 (lv_at hl 1 rfl) ?_
                  refine lv_iload hx hb dX5_rowsToSpare_49 (lv_at hl 0 rfl) ?_
                  refine lv_iadd hx hb dX5_rowsToSpare_51 ?_
                  refine lv_iload hx hb dX5_rowsToSpare_52 (lv_at hl 4 rfl) ?_
                  refine lv_icmp_ge (tgt := 67) hx hb dX5_rowsToSpare_54 (by decide) (fun c_9 => ?_) (fun c_9 => ?_)
                  · refine lv_iinc (v := nI (i + 1)) (lv' := [(5, .int (nI (i + 1))), (7, .int 0), (6, .int (zBits (nI i))), (3, .int 0), (4, .int 0), (0, .ref (a 9)), (1, .int p0), (2, .int p1)]) hx hb dX5_rowsToSpare_67 hl (k := 2) rfl (nI_1 i) (by decide) rfl (fun ls hl => ?_)
                    refine lv_goto (tgt := 9) hx hb dX5_rowsToSpare_70 (by decide) ?_
                    exact ih (i + 1) (by omega) H locs hS ls (lv_sub hl [0, 3, 4, 5, 6, 7] rfl)
                  · exact absurd (zBits_nn _) c_9
          exact loop (256 - 1) 1 (by omega) _ _ hS ls (lv_sub hl [0, 2, 1, 5, 6, 7] rfl)
set_option maxHeartbeats 4000000 in
set_option maxRecDepth 100000 in
theorem k_X11_repair (l : Launch) (hfl : l.stackTraces = false) (D : va_G) (g : Nat → ClassId) (z0 sz : Nat) (a : Nat → Nat) (p0 : Int32) (p1 : Int32) : vx_Met l yX11_repair (.code yX11_repair cX11_repair 4 (some .int) :: TG) (rmk 7 2 12 103) (va_Pc [.ref (a 0), .int p0, .int p1] (PP D g z0 sz [((a 0), f_x a), ((a 9), f_memory a), ((a 60), .inl (g 0, 8, .inl (fun _ => 0)))])) (va_Qi (fun (r : Int32) (u : Unit) => (r = 0) ∧ ((¬ p0 < 0) ∧ (p0 ≤ 8) ∧ (¬ p1 < 0) ∧ (p1 ≤ 8))) (fun (_ : Unit) (_ : State) => True) (va_A [] sz)) (vx_X (fun _ : Unit => True) (fun E _ _ => (E = "java/lang/IllegalArgumentException" ∧ ((p0 < 0) ∨ ((¬ p0 < 0) ∧ (¬ p0 ≤ 8)) ∨ ((¬ p0 < 0) ∧ (p0 ≤ 8) ∧ (p1 < 0)) ∨ ((¬ p0 < 0) ∧ (p0 ≤ 8) ∧ (¬ p1 < 0) ∧ (¬ p1 ≤ 8))))) (va_A [] sz)) 2 12 (va_A [] sz) := by
  refine vxm0 (cc := cX11_repair) (n := 4) (by decide) (Nat.le_of_ble_eq_true rfl) ?_
  intro p e s m args below meth c hx hb hr hml htab hown ht hlocks hnm hP0 hD0 hK hZ hsz hz ls hl
  subst hsz
  have hA : ∀ q : Nat, s.heap.size ≤ q → va_A [] s.heap.size q := Anw
  have hAz : ∀ q, va_A [] s.heap.size q → z0 ≤ q := A0z hz
  have hS : va_S (va_A [] s.heap.size) s.heap s.heap [] := va_S.rf
  have hl : lv_has ls 4 [(0, .ref (a 0)), (1, .int p0), (2, .int p1)] := hl
  refine lv_iload_n hx hb dX11_repair_0 rfl (lv_at hl 1 rfl) ?_
  refine lv_iconst (v := 0) hx hb dX11_repair_1 (by decide) ?_
  refine lv_bipush (v := 8) hx hb dX11_repair_2 (by decide) ?_
  have hPc : va_P D vwCl [] _ := (ro0 hP0 hS).sub (ws' := []) [] rfl
  have hDc : va_D (fun q => z0 ≤ q) [] := hD0.pick (ws' := []) [] (by decide) rfl
  have hFc := AnA (ws := []) hS.1
  refine vx_callv (vx_runS (As := [.int p0, .int 0, .int 8]) (rest := []) ⟨hx, hb, hml, hown, ht⟩ (k_X11_needRange l hfl D g z0 _ a p0 0 8) (va_cwS 3 ht (gS w_51 w_53 w_31 w_52) rfl rfl rfl (by decide +kernel) (le2 rfl rfl)) ⟨PP.blind, PP.mk' hK hZ hz hAz hS hPc hDc⟩ rfl rfl hl.1 rfl (lv_room (Nat.le_of_ble_eq_true rfl)) dX11_repair_4 (le2 rfl rfl)) hS (fun q _ h => hFc q h) hFc (fun q _ h => hFc q h) (fun E ce q9 u t H locs ht1 hvm hw hB hz1 hk1 hS hcell hv9 hcl => ?_) (fun u t H locs ht1 hvm hw hB hz1 hk1 hS => ?_)
  · obtain ⟨rfl, hB⟩ := hB
    rcases hB with hB | hB
    · have c_1 := hB
      exact out0 htab hlocks hS hcell hv9 hcl (fun t _ hF => ⟨(), trivial, ⟨rfl, (Or.inl c_1)⟩, hF⟩) (fun _ h => h) rfl rfl
    · obtain ⟨c_2, c_3⟩ := hB
      exact out0 htab hlocks hS hcell hv9 hcl (fun t _ hF => ⟨(), trivial, ⟨rfl, (Or.inr (Or.inl ⟨c_2, c_3⟩))⟩, hF⟩) (fun _ h => h) rfl rfl
  · obtain ⟨c_4, c_5⟩ := hw
    refine lv_iload_n hx hb dX11_repair_7 rfl (lv_at hl 2 rfl) ?_
    refine lv_iconst (v := 0) hx hb dX11_repair_8 (by decide) ?_
    refine lv_bipush (v := 8) hx hb dX11_repair_9 (by decide) ?_
    have hPc : va_P D vwCl [] _ := (ro0 hP0 hS).sub (ws' := []) [] rfl
    have hDc : va_D (fun q => z0 ≤ q) [] := hD0.pick (ws' := []) [] (by decide) rfl
    have hFc := AnA (ws := []) hS.1
    refine vx_callv (vx_runS (As := [.int p1, .int 0, .int 8]) (rest := []) ⟨hx, hb, hml, hown, ht⟩ (k_X11_needRange l hfl D g z0 _ a p1 0 8) (va_cwS 3 ht (gS w_51 w_53 w_31 w_52) rfl rfl rfl (by decide +kernel) (le2 rfl rfl)) ⟨PP.blind, PP.mk' hK hZ hz hAz hS hPc hDc⟩ rfl rfl hl.1 rfl (lv_room (Nat.le_of_ble_eq_true rfl)) dX11_repair_11 (le2 rfl rfl)) hS (fun q _ h => hFc q h) hFc (fun q _ h => hFc q h) (fun E ce q9 u t H locs ht1 hvm hw hB hz1 hk1 hS hcell hv9 hcl => ?_) (fun u t H locs ht1 hvm hw hB hz1 hk1 hS => ?_)
    · obtain ⟨rfl, hB⟩ := hB
      rcases hB with hB | hB
      · have c_6 := hB
        exact out0 htab hlocks hS hcell hv9 hcl (fun t _ hF => ⟨(), trivial, ⟨rfl, (Or.inr (Or.inr (Or.inl ⟨c_4, c_5, c_6⟩)))⟩, hF⟩) (fun _ h => h) rfl rfl
      · obtain ⟨c_7, c_8⟩ := hB
        exact out0 htab hlocks hS hcell hv9 hcl (fun t _ hF => ⟨(), trivial, ⟨rfl, (Or.inr (Or.inr (Or.inr ⟨c_4, c_5, c_7, c_8⟩)))⟩, hF⟩) (fun _ h => h) rfl rfl
    · obtain ⟨c_9, c_10⟩ := hw
      refine lv_aload_n hx hb dX11_repair_14 rfl (lv_at hl 0 rfl) ?_
      refine va_get (D := D) (ci := 17) (v := .ref (a 9)) (C := RX11) (T := TX11) (N := 11) hx hb ht in_X11 hown hK.1 (ro0 hP0 hS) 0 rfl rfl 8 (by decide) (ht _ w_166) (fun _ h9 => h9) rfl dX11_repair_15 ?_
      refine lv_iload_n hx hb dX11_repair_18 rfl (lv_at hl 1 rfl) ?_
      refine lv_iload_n hx hb dX11_repair_19 rfl (lv_at hl 2 rfl) ?_
      have hPc : va_P D vwCl [((a 9), f_memory a), ((a 60), .inl (g 0, 8, .inl (fun _ => 0)))] _ := (ro0 hP0 hS).sub (ws' := [((a 9), f_memory a), ((a 60), .inl (g 0, 8, .inl (fun _ => 0)))]) [1, 2] rfl
      have hDc : va_D (fun q => z0 ≤ q) [((a 9), f_memory a), ((a 60), .inl (g 0, 8, .inl (fun _ => 0)))] := hD0.pick (ws' := [((a 9), f_memory a), ((a 60), .inl (g 0, 8, .inl (fun _ => 0)))]) [1, 2] (by decide) rfl
      have hFc := AnA (ws := []) hS.1
      refine va_calli (va_runV (As := [.int p0, .int p1]) (rest := []) ⟨hx, hb, hml, hown, ht⟩ (k_X5_rowsToSpare l D g z0 _ a p0 p1 c_4 c_9) (cwV 2 ht (gV w_286 w_288 w_289 w_220 w_287) rfl rfl rfl (by decide +kernel) (le2 rfl rfl)) ⟨PP.blind, va_recv hK.1 (ro0 hP0 hS) (ci := 11) (q0 := 1) rfl rfl, PP.mk' hK hZ hz hAz hS hPc hDc⟩ rfl rfl hl.1 rfl (lv_room (Nat.le_of_ble_eq_true rfl)) dX11_repair_20 (le2 rfl rfl)) hS (fun q _ h => hFc q h) hFc (fun r u t H locs ht1 hvm hw hB hz1 hk1 hS => ?_)
      obtain ⟨rfl, hw⟩ := hw
      refine lv_istore_n (lv' := [(3, .int 0), (0, .ref (a 0)), (1, .int p0), (2, .int p1)]) hx hb dX11_repair_23 rfl hl (by decide) rfl (fun ls hl => ?_)
      refine lv_iload_n hx hb dX11_repair_24 rfl (lv_at hl 0 rfl) ?_
      refine lv_if_ge (tgt := 36) hx hb dX11_repair_25 (by decide) (fun c_11 => ?_) (fun c_11 => ?_)
      · refine lv_iload_n hx hb dX11_repair_36 rfl (lv_at hl 0 rfl) ?_
        refine vx_ret (W.widen (k := 2) (n := 12) (Nat.le_of_ble_eq_true rfl) (Nat.le_of_ble_eq_true rfl) ?_)
        exact W.iret (v := 0) hx hb hr (fun t ht9 hW9 => ⟨⟨0, (), rfl, ⟨rfl, ⟨c_4, c_5, c_9, c_10⟩⟩, trivial⟩, hS.F ht9⟩) hS.2.2 dX11_repair_37 hlocks
      · exact absurd c_11 (by decide)
set_option maxHeartbeats 4000000 in
set_option maxRecDepth 100000 in
theorem k_X11_sameAs (l : Launch) (hfl : l.stackTraces = false) (D : va_G) (g : Nat → ClassId) (z0 sz : Nat) (a : Nat → Nat) (p0 : Int32) (p1 : Int32) (hc_p1 : isC p1) : vx_Met l yX11_sameAs (.code yX11_sameAs cX11_sameAs 6 (some .int) :: TG) (rmk 7 1 6 102) (va_Pc [.ref (a 0), .int p0, .int p1] (PP D g z0 sz [((a 0), f_x a), ((a 10), f_wires a)])) (va_Qi (fun (r : Int32) (u : Unit) => False) (fun (_ : Unit) (_ : State) => True) (va_A [] sz)) (vx_X (fun _ : Unit => True) (fun E _ _ => (E = "java/lang/IndexOutOfBoundsException" ∧ True)) (va_A [] sz)) 1 6 (va_A [] sz) := by
  refine vxm0 (cc := cX11_sameAs) (n := 6) (by decide) (Nat.le_of_ble_eq_true rfl) ?_
  intro p e s m args below meth c hx hb hr hml htab hown ht hlocks hnm hP0 hD0 hK hZ hsz hz ls hl
  subst hsz
  have hA : ∀ q : Nat, s.heap.size ≤ q → va_A [] s.heap.size q := Anw
  have hAz : ∀ q, va_A [] s.heap.size q → z0 ≤ q := A0z hz
  have hS : va_S (va_A [] s.heap.size) s.heap s.heap [] := va_S.rf
  have hl : lv_has ls 6 [(0, .ref (a 0)), (1, .int p0), (2, .int p1)] := hl
  refine lv_aload_n hx hb dX11_sameAs_0 rfl (lv_at hl 0 rfl) ?_
  refine lv_iload_n hx hb dX11_sameAs_1 rfl (lv_at hl 1 rfl) ?_
  have hPc : va_P D vwCl [((a 0), f_x a), ((a 10), f_wires a)] _ := (ro0 hP0 hS).sub (ws' := [((a 0), f_x a), ((a 10), f_wires a)]) [0, 1] rfl
  have hDc : va_D (fun q => z0 ≤ q) [((a 0), f_x a), ((a 10), f_wires a)] := hD0.pick (ws' := [((a 0), f_x a), ((a 10), f_wires a)]) [0, 1] (by decide) rfl
  have hFc := AnA (ws := []) hS.1
  refine vx_callv (vx_runV (As := [.int p0]) (rest := []) ⟨hx, hb, hml, hown, ht⟩ (k_X11_needWire l hfl D g z0 _ a p0) (cwV 1 ht (gV w_190 w_192 w_193 w_31 w_191) rfl rfl rfl (by decide +kernel) (le2 rfl rfl)) ⟨PP.blind, va_recv hK.1 (ro0 hP0 hS) (ci := 17) (q0 := 0) rfl rfl, PP.mk' hK hZ hz hAz hS hPc hDc⟩ rfl rfl hl.1 rfl (lv_room (Nat.le_of_ble_eq_true rfl)) dX11_sameAs_2 (le2 rfl rfl)) hS (fun q _ h => hFc q h) hFc (fun q _ h => hFc q h) (fun E ce q9 u t H locs ht1 hvm hw hB hz1 hk1 hS hcell hv9 hcl => ?_) (fun u t H locs ht1 hvm hw hB hz1 hk1 hS => ?_)
  · obtain ⟨rfl, hB⟩ := hB
    exact out0 htab hlocks hS hcell hv9 hcl (fun t _ hF => ⟨(), trivial, ⟨rfl, trivial⟩, hF⟩) (fun _ h => h) rfl rfl
  · exact hw.elim
set_option maxHeartbeats 4000000 in
set_option maxRecDepth 100000 in
theorem k_X11_seedFor (l : Launch) (hfl : l.stackTraces = false) (D : va_G) (g : Nat → ClassId) (z0 sz : Nat) (a : Nat → Nat) (p0 : Int32) : vx_Met l yX11_seedFor (.code yX11_seedFor cX11_seedFor 3 (some .int) :: TG) (rmk 7 1 6 102) (va_Pc [.ref (a 0), .int p0] (PP D g z0 sz [((a 0), f_x a), ((a 3), f_rows a)])) (va_Qi (fun (r : Int32) (u : Unit) => False) (fun (_ : Unit) (_ : State) => True) (va_A [] sz)) (vx_X (fun _ : Unit => True) (fun E _ _ => (E = "java/lang/IndexOutOfBoundsException" ∧ True)) (va_A [] sz)) 1 6 (va_A [] sz) := by
  refine vxm0 (cc := cX11_seedFor) (n := 3) (by decide) (Nat.le_of_ble_eq_true rfl) ?_
  intro p e s m args below meth c hx hb hr hml htab hown ht hlocks hnm hP0 hD0 hK hZ hsz hz ls hl
  subst hsz
  have hA : ∀ q : Nat, s.heap.size ≤ q → va_A [] s.heap.size q := Anw
  have hAz : ∀ q, va_A [] s.heap.size q → z0 ≤ q := A0z hz
  have hS : va_S (va_A [] s.heap.size) s.heap s.heap [] := va_S.rf
  have hl : lv_has ls 3 [(0, .ref (a 0)), (1, .int p0)] := hl
  refine lv_aload_n hx hb dX11_seedFor_0 rfl (lv_at hl 0 rfl) ?_
  refine lv_iload_n hx hb dX11_seedFor_1 rfl (lv_at hl 1 rfl) ?_
  have hPc : va_P D vwCl [((a 0), f_x a), ((a 3), f_rows a)] _ := (ro0 hP0 hS).sub (ws' := [((a 0), f_x a), ((a 3), f_rows a)]) [0, 1] rfl
  have hDc : va_D (fun q => z0 ≤ q) [((a 0), f_x a), ((a 3), f_rows a)] := hD0.pick (ws' := [((a 0), f_x a), ((a 3), f_rows a)]) [0, 1] (by decide) rfl
  have hFc := AnA (ws := []) hS.1
  refine vx_callv (vx_runV (As := [.int p0]) (rest := []) ⟨hx, hb, hml, hown, ht⟩ (k_X11_needPattern l hfl D g z0 _ a p0) (cwV 1 ht (gV w_183 w_185 w_186 w_31 w_184) rfl rfl rfl (by decide +kernel) (le2 rfl rfl)) ⟨PP.blind, va_recv hK.1 (ro0 hP0 hS) (ci := 17) (q0 := 0) rfl rfl, PP.mk' hK hZ hz hAz hS hPc hDc⟩ rfl rfl hl.1 rfl (lv_room (Nat.le_of_ble_eq_true rfl)) dX11_seedFor_2 (le2 rfl rfl)) hS (fun q _ h => hFc q h) hFc (fun q _ h => hFc q h) (fun E ce q9 u t H locs ht1 hvm hw hB hz1 hk1 hS hcell hv9 hcl => ?_) (fun u t H locs ht1 hvm hw hB hz1 hk1 hS => ?_)
  · obtain ⟨rfl, hB⟩ := hB
    exact out0 htab hlocks hS hcell hv9 hcl (fun t _ hF => ⟨(), trivial, ⟨rfl, trivial⟩, hF⟩) (fun _ h => h) rfl rfl
  · exact hw.elim
set_option maxHeartbeats 4000000 in
set_option maxRecDepth 100000 in
theorem k_X11_seen (l : Launch) (hfl : l.stackTraces = false) (D : va_G) (g : Nat → ClassId) (z0 sz : Nat) (a : Nat → Nat) (p0 : Int32) (p1 : Int32) : vx_Met l yX11_seen (.code yX11_seen cX11_seen 3 (some .int) :: TG) (rmk 7 1 6 102) (va_Pc [.ref (a 0), .int p0, .int p1] (PP D g z0 sz [((a 0), f_x a), ((a 3), f_rows a)])) (va_Qi (fun (r : Int32) (u : Unit) => False) (fun (_ : Unit) (_ : State) => True) (va_A [] sz)) (vx_X (fun _ : Unit => True) (fun E _ _ => (E = "java/lang/IndexOutOfBoundsException" ∧ True)) (va_A [] sz)) 1 6 (va_A [] sz) := by
  refine vxm0 (cc := cX11_seen) (n := 3) (by decide) (Nat.le_of_ble_eq_true rfl) ?_
  intro p e s m args below meth c hx hb hr hml htab hown ht hlocks hnm hP0 hD0 hK hZ hsz hz ls hl
  subst hsz
  have hA : ∀ q : Nat, s.heap.size ≤ q → va_A [] s.heap.size q := Anw
  have hAz : ∀ q, va_A [] s.heap.size q → z0 ≤ q := A0z hz
  have hS : va_S (va_A [] s.heap.size) s.heap s.heap [] := va_S.rf
  have hl : lv_has ls 3 [(0, .ref (a 0)), (1, .int p0), (2, .int p1)] := hl
  refine lv_aload_n hx hb dX11_seen_0 rfl (lv_at hl 0 rfl) ?_
  refine lv_iload_n hx hb dX11_seen_1 rfl (lv_at hl 1 rfl) ?_
  have hPc : va_P D vwCl [((a 0), f_x a), ((a 3), f_rows a)] _ := (ro0 hP0 hS).sub (ws' := [((a 0), f_x a), ((a 3), f_rows a)]) [0, 1] rfl
  have hDc : va_D (fun q => z0 ≤ q) [((a 0), f_x a), ((a 3), f_rows a)] := hD0.pick (ws' := [((a 0), f_x a), ((a 3), f_rows a)]) [0, 1] (by decide) rfl
  have hFc := AnA (ws := []) hS.1
  refine vx_callv (vx_runV (As := [.int p0]) (rest := []) ⟨hx, hb, hml, hown, ht⟩ (k_X11_needPattern l hfl D g z0 _ a p0) (cwV 1 ht (gV w_183 w_185 w_186 w_31 w_184) rfl rfl rfl (by decide +kernel) (le2 rfl rfl)) ⟨PP.blind, va_recv hK.1 (ro0 hP0 hS) (ci := 17) (q0 := 0) rfl rfl, PP.mk' hK hZ hz hAz hS hPc hDc⟩ rfl rfl hl.1 rfl (lv_room (Nat.le_of_ble_eq_true rfl)) dX11_seen_2 (le2 rfl rfl)) hS (fun q _ h => hFc q h) hFc (fun q _ h => hFc q h) (fun E ce q9 u t H locs ht1 hvm hw hB hz1 hk1 hS hcell hv9 hcl => ?_) (fun u t H locs ht1 hvm hw hB hz1 hk1 hS => ?_)
  · obtain ⟨rfl, hB⟩ := hB
    exact out0 htab hlocks hS hcell hv9 hcl (fun t _ hF => ⟨(), trivial, ⟨rfl, trivial⟩, hF⟩) (fun _ h => h) rfl rfl
  · exact hw.elim
set_option maxHeartbeats 4000000 in
set_option maxRecDepth 100000 in
theorem k_X11_setTime (l : Launch) (hfl : l.stackTraces = false) (D : va_G) (g : Nat → ClassId) (z0 sz : Nat) (a : Nat → Nat) (p0 : Int32) (p1 : Int32) : vx_Met l yX11_setTime (.code yX11_setTime cX11_setTime 4 (some .int) :: TG) (rmk 7 1 6 102) (va_Pc [.ref (a 0), .int p0, .int p1] (PP D g z0 sz [((a 0), f_x a), ((a 3), f_rows a)])) (va_Qi (fun (r : Int32) (u : Unit) => False) (fun (_ : Unit) (_ : State) => True) (va_A [] sz)) (vx_X (fun _ : Unit => True) (fun E _ _ => (E = "java/lang/IndexOutOfBoundsException" ∧ True)) (va_A [] sz)) 1 6 (va_A [] sz) := by
  refine vxm0 (cc := cX11_setTime) (n := 4) (by decide) (Nat.le_of_ble_eq_true rfl) ?_
  intro p e s m args below meth c hx hb hr hml htab hown ht hlocks hnm hP0 hD0 hK hZ hsz hz ls hl
  subst hsz
  have hA : ∀ q : Nat, s.heap.size ≤ q → va_A [] s.heap.size q := Anw
  have hAz : ∀ q, va_A [] s.heap.size q → z0 ≤ q := A0z hz
  have hS : va_S (va_A [] s.heap.size) s.heap s.heap [] := va_S.rf
  have hl : lv_has ls 4 [(0, .ref (a 0)), (1, .int p0), (2, .int p1)] := hl
  refine lv_aload_n hx hb dX11_setTime_0 rfl (lv_at hl 0 rfl) ?_
  refine lv_iload_n hx hb dX11_setTime_1 rfl (lv_at hl 1 rfl) ?_
  have hPc : va_P D vwCl [((a 0), f_x a), ((a 3), f_rows a)] _ := (ro0 hP0 hS).sub (ws' := [((a 0), f_x a), ((a 3), f_rows a)]) [0, 1] rfl
  have hDc : va_D (fun q => z0 ≤ q) [((a 0), f_x a), ((a 3), f_rows a)] := hD0.pick (ws' := [((a 0), f_x a), ((a 3), f_rows a)]) [0, 1] (by decide) rfl
  have hFc := AnA (ws := []) hS.1
  refine vx_callv (vx_runV (As := [.int p0]) (rest := []) ⟨hx, hb, hml, hown, ht⟩ (k_X11_needPattern l hfl D g z0 _ a p0) (cwV 1 ht (gV w_183 w_185 w_186 w_31 w_184) rfl rfl rfl (by decide +kernel) (le2 rfl rfl)) ⟨PP.blind, va_recv hK.1 (ro0 hP0 hS) (ci := 17) (q0 := 0) rfl rfl, PP.mk' hK hZ hz hAz hS hPc hDc⟩ rfl rfl hl.1 rfl (lv_room (Nat.le_of_ble_eq_true rfl)) dX11_setTime_2 (le2 rfl rfl)) hS (fun q _ h => hFc q h) hFc (fun q _ h => hFc q h) (fun E ce q9 u t H locs ht1 hvm hw hB hz1 hk1 hS hcell hv9 hcl => ?_) (fun u t H locs ht1 hvm hw hB hz1 hk1 hS => ?_)
  · obtain ⟨rfl, hB⟩ := hB
    exact out0 htab hlocks hS hcell hv9 hcl (fun t _ hF => ⟨(), trivial, ⟨rfl, trivial⟩, hF⟩) (fun _ h => h) rfl rfl
  · exact hw.elim
