theorem w_1235 : Cond.fieldLink RX11 62 "StuckatBench" "ring" "LStuckatBench$Ring;" ∈ TG := tg (sg_3 _ (List.mem_of_getElem? (i := 83) (by decide +kernel))) (by decide +kernel)
theorem w_1236 : Cond.fieldLink RX11 365 "StuckatBench$Ring" "bits" "I" ∈ TG := tg (sg_2 _ (List.mem_of_getElem? (i := 167) (by decide +kernel))) (by decide +kernel)
theorem in_X8 : ∀ w ∈ u_ws RX8 TX8 4, w ∈ TG := fun w h => tg (List.mem_append_right _ ((goodIn_r (big := tables_1) _ [410, 412, 414, 416] (by decide +kernel) (by decide +kernel) w h).1)) ((List.all_eq_true.mp (by decide +kernel : (u_ws RX8 TX8 4).all goodWord = true)) w h)
theorem w_1237 : Cond.fieldLink RX11 368 "StuckatBench$Ring" "taps" "I" ∈ TG := tg (sg_2 _ (List.mem_of_getElem? (i := 169) (by decide +kernel))) (by decide +kernel)
theorem w_1238 : Cond.fieldLink RX8 18 "StuckatBench$Ring" "bits" "I" ∈ TG := tg (sg_2 _ (List.mem_of_getElem? (i := 166) (by decide +kernel))) (by decide +kernel)
theorem w_1239 : Cond.methodLink RX8 31 yX8_allBits ∈ TG := tg (sg_4 _ (List.mem_of_getElem? (i := 40) (by decide +kernel))) (by decide +kernel)
theorem w_1240 : Cond.code yX8_allBits cX8_allBits 1 (some .int) ∈ TG := tg (sg_4 _ (List.mem_of_getElem? (i := 43) (by decide +kernel))) (by decide +kernel)
theorem w_1241 : Cond.instanceMethod yX8_allBits ∈ TG := tg (sg_4 _ (List.mem_of_getElem? (i := 41) (by decide +kernel))) (by decide +kernel)
theorem w_1242 : Cond.selects RX8 yX8_allBits yX8_allBits ∈ TG := tg (sg_4 _ (List.mem_of_getElem? (i := 42) (by decide +kernel))) (by decide +kernel)
theorem w_1243 : Cond.initialized RX8 ∈ TG := tg (sg_1 _ (List.mem_of_getElem? (i := 9) (by decide +kernel))) (by decide +kernel)
theorem w_1244 : Cond.fieldLink RX8 22 "StuckatBench$Ring" "taps" "I" ∈ TG := tg (sg_2 _ (List.mem_of_getElem? (i := 168) (by decide +kernel))) (by decide +kernel)
theorem w_1245 : Cond.methodLink RX8 25 yJ6_bitCount_0f7a4 ∈ TG := tg (sg_4 _ (List.mem_of_getElem? (i := 34) (by decide +kernel))) (by decide +kernel)
theorem w_1246 : Cond.methodLink RX8 35 yX8_stepped ∈ TG := tg (sg_7 _ (List.mem_of_getElem? (i := 123) (by decide +kernel))) (by decide +kernel)
theorem w_1247 : Cond.code yX8_stepped cX8_stepped 2 (some .int) ∈ TG := tg (sg_4 _ (List.mem_of_getElem? (i := 33) (by decide +kernel))) (by decide +kernel)
theorem w_1248 : Cond.instanceMethod yX8_stepped ∈ TG := tg (sg_4 _ (List.mem_of_getElem? (i := 31) (by decide +kernel))) (by decide +kernel)
theorem w_1249 : Cond.selects RX8 yX8_stepped yX8_stepped ∈ TG := tg (sg_4 _ (List.mem_of_getElem? (i := 32) (by decide +kernel))) (by decide +kernel)
theorem w_1250 : Cond.methodLink RX11 371 yX8_stepsBackToOne ∈ TG := tg (sg_7 _ (List.mem_of_getElem? (i := 119) (by decide +kernel))) (by decide +kernel)
theorem w_1251 : Cond.code yX8_stepsBackToOne cX8_stepsBackToOne 3 (some .int) ∈ TG := tg (sg_7 _ (List.mem_of_getElem? (i := 122) (by decide +kernel))) (by decide +kernel)
theorem w_1252 : Cond.instanceMethod yX8_stepsBackToOne ∈ TG := tg (sg_7 _ (List.mem_of_getElem? (i := 120) (by decide +kernel))) (by decide +kernel)
theorem w_1253 : Cond.selects RX8 yX8_stepsBackToOne yX8_stepsBackToOne ∈ TG := tg (sg_7 _ (List.mem_of_getElem? (i := 121) (by decide +kernel))) (by decide +kernel)
theorem w_1254 : Cond.fieldLink RX15 53 "StuckatBenchModel" "bits" "I" ∈ TG := tg (sg_9 _ (List.mem_of_getElem? (i := 129) (by decide +kernel))) (by decide +kernel)
theorem w_1255 : Cond.fieldLink RX15 56 "StuckatBenchModel" "taps" "I" ∈ TG := tg (sg_9 _ (List.mem_of_getElem? (i := 130) (by decide +kernel))) (by decide +kernel)
theorem w_1256 : Cond.methodLink RX15 379 yJ6_bitCount_0f7a4 ∈ TG := tg (sg_12 _ (List.mem_of_getElem? (i := 163) (by decide +kernel))) (by decide +kernel)
theorem w_1257 : Cond.methodLink RX15 382 yX15_step ∈ TG := tg (sg_12 _ (List.mem_of_getElem? (i := 159) (by decide +kernel))) (by decide +kernel)
theorem w_1258 : Cond.code yX15_step cX15_step 2 (some .int) ∈ TG := tg (sg_12 _ (List.mem_of_getElem? (i := 162) (by decide +kernel))) (by decide +kernel)
theorem w_1259 : Cond.instanceMethod yX15_step ∈ TG := tg (sg_12 _ (List.mem_of_getElem? (i := 161) (by decide +kernel))) (by decide +kernel)
theorem w_1260 : Cond.selects RX15 yX15_step yX15_step ∈ TG := tg (List.mem_append_left _ (List.mem_map.mpr ⟨(yX15_step, 29), List.mem_of_getElem? (i := 109) (by decide +kernel), rfl⟩)) (by decide +kernel)
theorem w_1261 : Cond.methodLink RL 107 yX11_setRing ∈ TG := tg (sg_7 _ (List.mem_of_getElem? (i := 112) (by decide +kernel))) (by decide +kernel)
theorem w_1262 : Cond.code yX11_setRing cX11_setRing 3 (some .int) ∈ TG := tg (sg_7 _ (List.mem_of_getElem? (i := 115) (by decide +kernel))) (by decide +kernel)
theorem w_1263 : Cond.instanceMethod yX11_setRing ∈ TG := tg (sg_7 _ (List.mem_of_getElem? (i := 113) (by decide +kernel))) (by decide +kernel)
theorem w_1264 : Cond.selects RX11 yX11_setRing yX11_setRing ∈ TG := tg (sg_7 _ (List.mem_of_getElem? (i := 114) (by decide +kernel))) (by decide +kernel)
theorem w_1265 : Cond.methodLink RL 324 yL_setRing ∈ TG := tg (sg_7 _ (List.mem_of_getElem? (i := 109) (by decide +kernel))) (by decide +kernel)
theorem w_1266 : Cond.codeWith yL_setRing cL_setRing 5 (some .int) [(0, 10, 13, 24)] ∈ TG := tg (sg_7 _ (List.mem_of_getElem? (i := 111) (by decide +kernel))) (by decide +kernel)
theorem w_1267 : Cond.static yL_setRing ∈ TG := tg (sg_7 _ (List.mem_of_getElem? (i := 110) (by decide +kernel))) (by decide +kernel)
theorem w_1268 : Cond.methodLink RL 326 yX15_setRing ∈ TG := tg (sg_12 _ (List.mem_of_getElem? (i := 155) (by decide +kernel))) (by decide +kernel)
theorem w_1269 : Cond.code yX15_setRing cX15_setRing 5 (some .int) ∈ TG := tg (sg_12 _ (List.mem_of_getElem? (i := 158) (by decide +kernel))) (by decide +kernel)
theorem w_1270 : Cond.instanceMethod yX15_setRing ∈ TG := tg (sg_12 _ (List.mem_of_getElem? (i := 156) (by decide +kernel))) (by decide +kernel)
theorem w_1271 : Cond.selects RX15 yX15_setRing yX15_setRing ∈ TG := tg (sg_12 _ (List.mem_of_getElem? (i := 157) (by decide +kernel))) (by decide +kernel)
theorem dL_setRing_0 : decode cL_setRing 0 = .ok (.aload_n 3, 1) := by decide +kernel
theorem dL_setRing_1 : decode cL_setRing 1 = .ok (.iconst 0, 1) := by decide +kernel
theorem dL_setRing_2 : decode cL_setRing 2 = .ok (.aload_n 0, 1) := by decide +kernel
theorem dL_setRing_3 : decode cL_setRing 3 = .ok (.iload_n 1, 1) := by decide +kernel
theorem dL_setRing_4 : decode cL_setRing 4 = .ok (.iload_n 2, 1) := by decide +kernel
theorem dL_setRing_5 : decode cL_setRing 5 = .ok (.invokevirtual 107, 3) := by decide +kernel
theorem dL_setRing_8 : decode cL_setRing 8 = .ok (.i2l, 1) := by decide +kernel
theorem dL_setRing_9 : decode cL_setRing 9 = .ok (.lastore, 1) := by decide +kernel
theorem dL_setRing_10 : decode cL_setRing 10 = .ok (.goto 7, 3) := by decide +kernel
theorem dL_setRing_13 : decode cL_setRing 13 = .ok (.astore 4, 2) := by decide +kernel
theorem dL_setRing_15 : decode cL_setRing 15 = .ok (.iconst 1, 1) := by decide +kernel
theorem dL_setRing_16 : decode cL_setRing 16 = .ok (.ireturn, 1) := by decide +kernel
theorem dL_setRing_17 : decode cL_setRing 17 = .ok (.iconst 0, 1) := by decide +kernel
theorem dL_setRing_18 : decode cL_setRing 18 = .ok (.ireturn, 1) := by decide +kernel
theorem dX11_setRing_0 : decode cX11_setRing 0 = .ok (.iload_n 1, 1) := by decide +kernel
theorem dX11_setRing_1 : decode cX11_setRing 1 = .ok (.iconst 2, 1) := by decide +kernel
theorem dX11_setRing_2 : decode cX11_setRing 2 = .ok (.bipush 16, 2) := by decide +kernel
theorem dX11_setRing_4 : decode cX11_setRing 4 = .ok (.invokestatic 361, 3) := by decide +kernel
theorem dX11_setRing_7 : decode cX11_setRing 7 = .ok (.iload_n 2, 1) := by decide +kernel
theorem dX11_setRing_8 : decode cX11_setRing 8 = .ok (.iconst 1, 1) := by decide +kernel
theorem dX11_setRing_9 : decode cX11_setRing 9 = .ok (.iconst 1, 1) := by decide +kernel
theorem dX11_setRing_10 : decode cX11_setRing 10 = .ok (.iload_n 1, 1) := by decide +kernel
theorem dX11_setRing_11 : decode cX11_setRing 11 = .ok (.ishl, 1) := by decide +kernel
theorem dX11_setRing_12 : decode cX11_setRing 12 = .ok (.iconst 1, 1) := by decide +kernel
theorem dX11_setRing_13 : decode cX11_setRing 13 = .ok (.isub, 1) := by decide +kernel
theorem dX11_setRing_14 : decode cX11_setRing 14 = .ok (.invokestatic 361, 3) := by decide +kernel
theorem dX11_setRing_17 : decode cX11_setRing 17 = .ok (.aload_n 0, 1) := by decide +kernel
theorem dX11_setRing_18 : decode cX11_setRing 18 = .ok (.getfield 62, 3) := by decide +kernel
theorem dX11_setRing_21 : decode cX11_setRing 21 = .ok (.iload_n 1, 1) := by decide +kernel
theorem dX11_setRing_22 : decode cX11_setRing 22 = .ok (.putfield 365, 3) := by decide +kernel
theorem dX11_setRing_25 : decode cX11_setRing 25 = .ok (.aload_n 0, 1) := by decide +kernel
theorem dX11_setRing_26 : decode cX11_setRing 26 = .ok (.getfield 62, 3) := by decide +kernel
theorem dX11_setRing_29 : decode cX11_setRing 29 = .ok (.iload_n 2, 1) := by decide +kernel
theorem dX11_setRing_30 : decode cX11_setRing 30 = .ok (.putfield 368, 3) := by decide +kernel
theorem dX11_setRing_33 : decode cX11_setRing 33 = .ok (.aload_n 0, 1) := by decide +kernel
theorem dX11_setRing_34 : decode cX11_setRing 34 = .ok (.getfield 62, 3) := by decide +kernel
theorem dX11_setRing_37 : decode cX11_setRing 37 = .ok (.invokevirtual 371, 3) := by decide +kernel
theorem dX11_setRing_40 : decode cX11_setRing 40 = .ok (.ireturn, 1) := by decide +kernel
theorem dX15_setRing_0 : decode cX15_setRing 0 = .ok (.aload_n 0, 1) := by decide +kernel
theorem dX15_setRing_1 : decode cX15_setRing 1 = .ok (.iload_n 1, 1) := by decide +kernel
theorem dX15_setRing_2 : decode cX15_setRing 2 = .ok (.iconst 2, 1) := by decide +kernel
theorem dX15_setRing_3 : decode cX15_setRing 3 = .ok (.bipush 16, 2) := by decide +kernel
theorem dX15_setRing_5 : decode cX15_setRing 5 = .ok (.invokestatic 98, 3) := by decide +kernel
theorem dX15_setRing_8 : decode cX15_setRing 8 = .ok (.ifCond .eq 20, 3) := by decide +kernel
theorem dX15_setRing_11 : decode cX15_setRing 11 = .ok (.iload_n 2, 1) := by decide +kernel
theorem dX15_setRing_12 : decode cX15_setRing 12 = .ok (.iconst 1, 1) := by decide +kernel
theorem dX15_setRing_13 : decode cX15_setRing 13 = .ok (.iconst 1, 1) := by decide +kernel
theorem dX15_setRing_14 : decode cX15_setRing 14 = .ok (.iload_n 1, 1) := by decide +kernel
theorem dX15_setRing_15 : decode cX15_setRing 15 = .ok (.ishl, 1) := by decide +kernel
theorem dX15_setRing_16 : decode cX15_setRing 16 = .ok (.iconst 1, 1) := by decide +kernel
theorem dX15_setRing_17 : decode cX15_setRing 17 = .ok (.isub, 1) := by decide +kernel
theorem dX15_setRing_18 : decode cX15_setRing 18 = .ok (.invokestatic 98, 3) := by decide +kernel
theorem dX15_setRing_21 : decode cX15_setRing 21 = .ok (.ifCond .eq 7, 3) := by decide +kernel
theorem dX15_setRing_24 : decode cX15_setRing 24 = .ok (.iconst 0, 1) := by decide +kernel
theorem dX15_setRing_25 : decode cX15_setRing 25 = .ok (.goto 4, 3) := by decide +kernel
theorem dX15_setRing_28 : decode cX15_setRing 28 = .ok (.iconst 1, 1) := by decide +kernel
theorem dX15_setRing_29 : decode cX15_setRing 29 = .ok (.invokevirtual 106, 3) := by decide +kernel
theorem dX15_setRing_32 : decode cX15_setRing 32 = .ok (.ifCond .eq 5, 3) := by decide +kernel
theorem dX15_setRing_35 : decode cX15_setRing 35 = .ok (.iconst 0, 1) := by decide +kernel
theorem dX15_setRing_36 : decode cX15_setRing 36 = .ok (.ireturn, 1) := by decide +kernel
theorem dX15_setRing_37 : decode cX15_setRing 37 = .ok (.aload_n 0, 1) := by decide +kernel
theorem dX15_setRing_38 : decode cX15_setRing 38 = .ok (.iload_n 1, 1) := by decide +kernel
theorem dX15_setRing_39 : decode cX15_setRing 39 = .ok (.putfield 53, 3) := by decide +kernel
theorem dX15_setRing_42 : decode cX15_setRing 42 = .ok (.aload_n 0, 1) := by decide +kernel
theorem dX15_setRing_43 : decode cX15_setRing 43 = .ok (.iload_n 2, 1) := by decide +kernel
theorem dX15_setRing_44 : decode cX15_setRing 44 = .ok (.putfield 56, 3) := by decide +kernel
theorem dX15_setRing_47 : decode cX15_setRing 47 = .ok (.iconst 1, 1) := by decide +kernel
theorem dX15_setRing_48 : decode cX15_setRing 48 = .ok (.istore_n 3, 1) := by decide +kernel
theorem dX15_setRing_49 : decode cX15_setRing 49 = .ok (.iconst 1, 1) := by decide +kernel
theorem dX15_setRing_50 : decode cX15_setRing 50 = .ok (.istore 4, 2) := by decide +kernel
theorem dX15_setRing_52 : decode cX15_setRing 52 = .ok (.iload 4, 2) := by decide +kernel
theorem dX15_setRing_54 : decode cX15_setRing 54 = .ok (.iconst 1, 1) := by decide +kernel
theorem dX15_setRing_55 : decode cX15_setRing 55 = .ok (.iload_n 1, 1) := by decide +kernel
theorem dX15_setRing_56 : decode cX15_setRing 56 = .ok (.ishl, 1) := by decide +kernel
theorem dX15_setRing_57 : decode cX15_setRing 57 = .ok (.if_icmp .gt 23, 3) := by decide +kernel
theorem dX15_setRing_60 : decode cX15_setRing 60 = .ok (.aload_n 0, 1) := by decide +kernel
theorem dX15_setRing_61 : decode cX15_setRing 61 = .ok (.iload_n 3, 1) := by decide +kernel
theorem dX15_setRing_62 : decode cX15_setRing 62 = .ok (.invokevirtual 382, 3) := by decide +kernel
theorem dX15_setRing_65 : decode cX15_setRing 65 = .ok (.istore_n 3, 1) := by decide +kernel
theorem dX15_setRing_66 : decode cX15_setRing 66 = .ok (.iload_n 3, 1) := by decide +kernel
theorem dX15_setRing_67 : decode cX15_setRing 67 = .ok (.iconst 1, 1) := by decide +kernel
theorem dX15_setRing_68 : decode cX15_setRing 68 = .ok (.if_icmp .ne 6, 3) := by decide +kernel
theorem dX15_setRing_71 : decode cX15_setRing 71 = .ok (.iload 4, 2) := by decide +kernel
theorem dX15_setRing_73 : decode cX15_setRing 73 = .ok (.ireturn, 1) := by decide +kernel
theorem dX15_setRing_74 : decode cX15_setRing 74 = .ok (.iinc 4 1, 3) := by decide +kernel
theorem dX15_setRing_77 : decode cX15_setRing 77 = .ok (.goto (-25), 3) := by decide +kernel
theorem dX15_setRing_80 : decode cX15_setRing 80 = .ok (.iconst 0, 1) := by decide +kernel
theorem dX15_setRing_81 : decode cX15_setRing 81 = .ok (.ireturn, 1) := by decide +kernel
theorem dX15_step_0 : decode cX15_step 0 = .ok (.iload_n 1, 1) := by decide +kernel
theorem dX15_step_1 : decode cX15_step 1 = .ok (.iconst 1, 1) := by decide +kernel
theorem dX15_step_2 : decode cX15_step 2 = .ok (.ishl, 1) := by decide +kernel
theorem dX15_step_3 : decode cX15_step 3 = .ok (.iload_n 1, 1) := by decide +kernel
theorem dX15_step_4 : decode cX15_step 4 = .ok (.aload_n 0, 1) := by decide +kernel
theorem dX15_step_5 : decode cX15_step 5 = .ok (.getfield 56, 3) := by decide +kernel
theorem dX15_step_8 : decode cX15_step 8 = .ok (.iand, 1) := by decide +kernel
theorem dX15_step_9 : decode cX15_step 9 = .ok (.invokestatic 379, 3) := by decide +kernel
theorem dX15_step_12 : decode cX15_step 12 = .ok (.iconst 1, 1) := by decide +kernel
theorem dX15_step_13 : decode cX15_step 13 = .ok (.iand, 1) := by decide +kernel
theorem dX15_step_14 : decode cX15_step 14 = .ok (.ior, 1) := by decide +kernel
theorem dX15_step_15 : decode cX15_step 15 = .ok (.iconst 1, 1) := by decide +kernel
theorem dX15_step_16 : decode cX15_step 16 = .ok (.aload_n 0, 1) := by decide +kernel
theorem dX15_step_17 : decode cX15_step 17 = .ok (.getfield 53, 3) := by decide +kernel
theorem dX15_step_20 : decode cX15_step 20 = .ok (.ishl, 1) := by decide +kernel
theorem dX15_step_21 : decode cX15_step 21 = .ok (.iconst 1, 1) := by decide +kernel
theorem dX15_step_22 : decode cX15_step 22 = .ok (.isub, 1) := by decide +kernel
theorem dX15_step_23 : decode cX15_step 23 = .ok (.iand, 1) := by decide +kernel
theorem dX15_step_24 : decode cX15_step 24 = .ok (.ireturn, 1) := by decide +kernel
theorem dX8_allBits_0 : decode cX8_allBits 0 = .ok (.iconst 1, 1) := by decide +kernel
theorem dX8_allBits_1 : decode cX8_allBits 1 = .ok (.aload_n 0, 1) := by decide +kernel
theorem dX8_allBits_2 : decode cX8_allBits 2 = .ok (.getfield 18, 3) := by decide +kernel
theorem dX8_allBits_5 : decode cX8_allBits 5 = .ok (.ishl, 1) := by decide +kernel
theorem dX8_allBits_6 : decode cX8_allBits 6 = .ok (.iconst 1, 1) := by decide +kernel
theorem dX8_allBits_7 : decode cX8_allBits 7 = .ok (.isub, 1) := by decide +kernel
theorem dX8_allBits_8 : decode cX8_allBits 8 = .ok (.ireturn, 1) := by decide +kernel
theorem dX8_stepped_0 : decode cX8_stepped 0 = .ok (.iload_n 1, 1) := by decide +kernel
theorem dX8_stepped_1 : decode cX8_stepped 1 = .ok (.iconst 1, 1) := by decide +kernel
theorem dX8_stepped_2 : decode cX8_stepped 2 = .ok (.ishl, 1) := by decide +kernel
theorem dX8_stepped_3 : decode cX8_stepped 3 = .ok (.iload_n 1, 1) := by decide +kernel
theorem dX8_stepped_4 : decode cX8_stepped 4 = .ok (.aload_n 0, 1) := by decide +kernel
theorem dX8_stepped_5 : decode cX8_stepped 5 = .ok (.getfield 22, 3) := by decide +kernel
theorem dX8_stepped_8 : decode cX8_stepped 8 = .ok (.iand, 1) := by decide +kernel
theorem dX8_stepped_9 : decode cX8_stepped 9 = .ok (.invokestatic 25, 3) := by decide +kernel
theorem dX8_stepped_12 : decode cX8_stepped 12 = .ok (.iconst 1, 1) := by decide +kernel
theorem dX8_stepped_13 : decode cX8_stepped 13 = .ok (.iand, 1) := by decide +kernel
theorem dX8_stepped_14 : decode cX8_stepped 14 = .ok (.ior, 1) := by decide +kernel
theorem dX8_stepped_15 : decode cX8_stepped 15 = .ok (.aload_n 0, 1) := by decide +kernel
theorem dX8_stepped_16 : decode cX8_stepped 16 = .ok (.invokevirtual 31, 3) := by decide +kernel
theorem dX8_stepped_19 : decode cX8_stepped 19 = .ok (.iand, 1) := by decide +kernel
theorem dX8_stepped_20 : decode cX8_stepped 20 = .ok (.ireturn, 1) := by decide +kernel
theorem dX8_stepsBackToOne_0 : decode cX8_stepsBackToOne 0 = .ok (.iconst 1, 1) := by decide +kernel
theorem dX8_stepsBackToOne_1 : decode cX8_stepsBackToOne 1 = .ok (.istore_n 1, 1) := by decide +kernel
theorem dX8_stepsBackToOne_2 : decode cX8_stepsBackToOne 2 = .ok (.iconst 1, 1) := by decide +kernel
theorem dX8_stepsBackToOne_3 : decode cX8_stepsBackToOne 3 = .ok (.istore_n 2, 1) := by decide +kernel
theorem dX8_stepsBackToOne_4 : decode cX8_stepsBackToOne 4 = .ok (.iload_n 2, 1) := by decide +kernel
theorem dX8_stepsBackToOne_5 : decode cX8_stepsBackToOne 5 = .ok (.aload_n 0, 1) := by decide +kernel
theorem dX8_stepsBackToOne_6 : decode cX8_stepsBackToOne 6 = .ok (.invokevirtual 31, 3) := by decide +kernel
theorem dX8_stepsBackToOne_9 : decode cX8_stepsBackToOne 9 = .ok (.if_icmp .gt 22, 3) := by decide +kernel
theorem dX8_stepsBackToOne_12 : decode cX8_stepsBackToOne 12 = .ok (.aload_n 0, 1) := by decide +kernel
theorem dX8_stepsBackToOne_13 : decode cX8_stepsBackToOne 13 = .ok (.iload_n 1, 1) := by decide +kernel
theorem dX8_stepsBackToOne_14 : decode cX8_stepsBackToOne 14 = .ok (.invokevirtual 35, 3) := by decide +kernel
theorem dX8_stepsBackToOne_17 : decode cX8_stepsBackToOne 17 = .ok (.istore_n 1, 1) := by decide +kernel
theorem dX8_stepsBackToOne_18 : decode cX8_stepsBackToOne 18 = .ok (.iload_n 1, 1) := by decide +kernel
theorem dX8_stepsBackToOne_19 : decode cX8_stepsBackToOne 19 = .ok (.iconst 1, 1) := by decide +kernel
theorem dX8_stepsBackToOne_20 : decode cX8_stepsBackToOne 20 = .ok (.if_icmp .ne 5, 3) := by decide +kernel
theorem dX8_stepsBackToOne_23 : decode cX8_stepsBackToOne 23 = .ok (.iload_n 2, 1) := by decide +kernel
theorem dX8_stepsBackToOne_24 : decode cX8_stepsBackToOne 24 = .ok (.ireturn, 1) := by decide +kernel
theorem dX8_stepsBackToOne_25 : decode cX8_stepsBackToOne 25 = .ok (.iinc 2 1, 3) := by decide +kernel
theorem dX8_stepsBackToOne_28 : decode cX8_stepsBackToOne 28 = .ok (.goto (-24), 3) := by decide +kernel
theorem dX8_stepsBackToOne_31 : decode cX8_stepsBackToOne 31 = .ok (.iconst 0, 1) := by decide +kernel
theorem dX8_stepsBackToOne_32 : decode cX8_stepsBackToOne 32 = .ok (.ireturn, 1) := by decide +kernel
theorem dL_law_2033 : decode cL_law 2033 = .ok (.aload_n 1, 1) := by decide +kernel
theorem dL_law_2034 : decode cL_law 2034 = .ok (.aload_n 0, 1) := by decide +kernel
theorem dL_law_2035 : decode cL_law 2035 = .ok (.iload 5, 2) := by decide +kernel
theorem dL_law_2037 : decode cL_law 2037 = .ok (.iconst 1, 1) := by decide +kernel
theorem dL_law_2038 : decode cL_law 2038 = .ok (.iadd, 1) := by decide +kernel
theorem dL_law_2039 : decode cL_law 2039 = .ok (.iaload, 1) := by decide +kernel
theorem dL_law_2040 : decode cL_law 2040 = .ok (.aload_n 0, 1) := by decide +kernel
theorem dL_law_2041 : decode cL_law 2041 = .ok (.iload 5, 2) := by decide +kernel
theorem dL_law_2043 : decode cL_law 2043 = .ok (.iconst 2, 1) := by decide +kernel
theorem dL_law_2044 : decode cL_law 2044 = .ok (.iadd, 1) := by decide +kernel
theorem dL_law_2045 : decode cL_law 2045 = .ok (.iaload, 1) := by decide +kernel
theorem dL_law_2046 : decode cL_law 2046 = .ok (.aload_n 3, 1) := by decide +kernel
theorem dL_law_2047 : decode cL_law 2047 = .ok (.invokestatic 324, 3) := by decide +kernel
theorem dL_law_2050 : decode cL_law 2050 = .ok (.istore 6, 2) := by decide +kernel
theorem dL_law_2052 : decode cL_law 2052 = .ok (.aload_n 2, 1) := by decide +kernel
theorem dL_law_2053 : decode cL_law 2053 = .ok (.aload_n 0, 1) := by decide +kernel
theorem dL_law_2054 : decode cL_law 2054 = .ok (.iload 5, 2) := by decide +kernel
theorem dL_law_2056 : decode cL_law 2056 = .ok (.iconst 1, 1) := by decide +kernel
theorem dL_law_2057 : decode cL_law 2057 = .ok (.iadd, 1) := by decide +kernel
theorem dL_law_2058 : decode cL_law 2058 = .ok (.iaload, 1) := by decide +kernel
theorem dL_law_2059 : decode cL_law 2059 = .ok (.aload_n 0, 1) := by decide +kernel
theorem dL_law_2060 : decode cL_law 2060 = .ok (.iload 5, 2) := by decide +kernel
theorem dL_law_2062 : decode cL_law 2062 = .ok (.iconst 2, 1) := by decide +kernel
theorem dL_law_2063 : decode cL_law 2063 = .ok (.iadd, 1) := by decide +kernel
theorem dL_law_2064 : decode cL_law 2064 = .ok (.iaload, 1) := by decide +kernel
theorem dL_law_2065 : decode cL_law 2065 = .ok (.invokevirtual 326, 3) := by decide +kernel
theorem dL_law_2068 : decode cL_law 2068 = .ok (.istore 7, 2) := by decide +kernel
theorem dL_law_2070 : decode cL_law 2070 = .ok (.aload_n 2, 1) := by decide +kernel
theorem dL_law_2071 : decode cL_law 2071 = .ok (.invokevirtual 221, 3) := by decide +kernel
theorem dL_law_2074 : decode cL_law 2074 = .ok (.iload 6, 2) := by decide +kernel
theorem dL_law_2076 : decode cL_law 2076 = .ok (.if_icmp .eq 5, 3) := by decide +kernel
theorem dL_law_2081 : decode cL_law 2081 = .ok (.iload 6, 2) := by decide +kernel
theorem dL_law_2083 : decode cL_law 2083 = .ok (.ifCond .ne 15, 3) := by decide +kernel
theorem dL_law_2086 : decode cL_law 2086 = .ok (.aload_n 3, 1) := by decide +kernel
theorem dL_law_2087 : decode cL_law 2087 = .ok (.iconst 0, 1) := by decide +kernel
theorem dL_law_2088 : decode cL_law 2088 = .ok (.laload, 1) := by decide +kernel
theorem dL_law_2089 : decode cL_law 2089 = .ok (.iload 7, 2) := by decide +kernel
theorem dL_law_2091 : decode cL_law 2091 = .ok (.i2l, 1) := by decide +kernel
theorem dL_law_2092 : decode cL_law 2092 = .ok (.lcmp, 1) := by decide +kernel
theorem dL_law_2093 : decode cL_law 2093 = .ok (.ifCond .eq 5, 3) := by decide +kernel
theorem dL_law_2098 : decode cL_law 2098 = .ok (.goto 2166, 3) := by decide +kernel
/-! a map's way back to 1 -/
def oIt (f : Int32 → Int32) : Nat → Int32
  | 0 => 1
  | k + 1 => f (oIt f k)
def oGo (f : Int32 → Int32) : Nat → Nat → Int32 → Int32
  | 0, _, _ => 0
  | k + 1, i, s => if f s = 1 then nI i else oGo f k (i + 1) (f s)
theorem oGo_y {f : Int32 → Int32} {k i : Nat} {s R : Int32} (c : f s = 1) (h : oGo f (k + 1) i s = R) : nI i = R := by
  rw [oGo, if_pos c] at h
  exact h
theorem oGo_n {f : Int32 → Int32} {k i : Nat} {s R : Int32} (c : ¬ f s = 1) (h : oGo f (k + 1) i s = R) : oGo f k (i + 1) (f s) = R := by
  rw [oGo, if_neg c] at h
  exact h
theorem oGo_or (f : Int32 → Int32) : ∀ k i : Nat, oGo f k (i + 1) (oIt f i) = oGo f (k + 1) (i + 1) (oIt f i) ∨ ((∀ j, i < j → j ≤ i + k → oIt f j ≠ 1) ∧ oIt f (i + k + 1) = 1) := by
  intro k
  induction k with
  | zero =>
    intro i
    by_cases h : f (oIt f i) = 1
    · exact Or.inr ⟨fun j h1 h2 => absurd h1 (by omega), h⟩
    · refine Or.inl ?_
      rw [oGo, oGo, if_neg h, oGo]
  | succ k ih =>
    intro i
    by_cases h : f (oIt f i) = 1
    · refine Or.inl ?_
      rw [oGo, if_pos h, oGo, if_pos h]
    · rcases ih (i + 1) with h2 | ⟨h2, h3⟩
      · refine Or.inl ?_
        have h2' : oGo f k (i + 1 + 1) (f (oIt f i)) = oGo f (k + 1) (i + 1 + 1) (f (oIt f i)) := h2
        rw [oGo, if_neg h, h2']
        show _ = (if f (oIt f i) = 1 then nI (i + 1) else oGo f (k + 1) (i + 1 + 1) (f (oIt f i)))
        rw [if_neg h]
      · refine Or.inr ⟨fun j h4 h5 => ?_, ?_⟩
        · by_cases e : j = i + 1
          · rw [e]; exact h
          · exact h2 j (by omega) (by omega)
        · rw [show i + (k + 1) + 1 = i + 1 + k + 1 by omega]; exact h3
/-- n + 1 numbers under n aren't apart -/
theorem o_php : ∀ (n : Nat) (u : Nat → Nat), (∀ i, i < n + 1 → u i < n) → ∃ i j, i < j ∧ j < n + 1 ∧ u i = u j := by
  intro n
  induction n with
  | zero => intro u h; exact absurd (h 0 (by omega)) (by omega)
  | succ n ih =>
    intro u h
    by_cases hx : ∃ i, i < n + 1 ∧ u i = u (n + 1)
    · obtain ⟨i, h1, h2⟩ := hx
      exact ⟨i, n + 1, by omega, by omega, h2⟩
    · have hv : ∀ i, i < n + 1 → (if u i = n then u (n + 1) else u i) < n := by
        intro i hi
        by_cases e : u i = n
        · rw [if_pos e]
          have h1 := h (n + 1) (by omega)
          have h2 : u (n + 1) ≠ n := fun e2 => hx ⟨i, hi, by rw [e, e2]⟩
          omega
        · rw [if_neg e]
          have h1 := h i (by omega)
          omega
      obtain ⟨i, j, h1, h2, h3⟩ := ih (fun i => if u i = n then u (n + 1) else u i) hv
      have h3' : (if u i = n then u (n + 1) else u i) = (if u j = n then u (n + 1) else u j) := h3
      by_cases e1 : u i = n <;> by_cases e2 : u j = n
      · exact ⟨i, j, h1, by omega, by rw [e1, e2]⟩
      · rw [if_pos e1, if_neg e2] at h3'
        exact absurd ⟨j, h2, h3'.symm⟩ hx
      · rw [if_neg e1, if_pos e2] at h3'
        exact absurd ⟨i, by omega, h3'⟩ hx
      · rw [if_neg e1, if_neg e2] at h3'
        exact ⟨i, j, h1, by omega, h3'⟩
theorem oGo_eq (f : Int32 → Int32) (n : Nat) (h0 : f 0 = 0) (hr : ∀ x, ∃ j, j ≤ n ∧ f x = nI j) (h1 : 1 ≤ n) : oGo f n 1 1 = oGo f (n + 1) 1 1 := by
  rcases oGo_or f n 0 with h | ⟨h2, h3⟩
  · exact h
  · exfalso
    have nz : ∀ j, j ≤ n → oIt f j ≠ 0 := by
      intro j hj e
      have h4 : ∀ k, oIt f (j + k) = 0 := by
        intro k
        induction k with
        | zero => exact e
        | succ k ih => show f (oIt f (j + k)) = 0; rw [ih, h0]
      have h5 := h4 (n + 1 - j)
      rw [show j + (n + 1 - j) = 0 + n + 1 by omega, h3] at h5
      exact absurd h5 (by decide)
    have hv : ∀ j, ∃ u, u ≤ n ∧ oIt f j = nI u := by
      intro j
      cases j with
      | zero => exact ⟨1, h1, rfl⟩
      | succ j => exact hr _
    obtain ⟨u, hu⟩ := Classical.axiomOfChoice hv
    have un : ∀ j, j ≤ n → u j ≠ 0 := fun j hj e => nz j hj (by rw [(hu j).2, e]; rfl)
    obtain ⟨i, j, c1, c2, c3⟩ := o_php n (fun j => u j - 1) (fun i hi => by
      have a1 := (hu i).1
      have a2 := un i (by omega)
      show u i - 1 < n
      omega)
    have c3' : u i - 1 = u j - 1 := c3
    have e : oIt f i = oIt f j := by
      have a2 := un i (by omega)
      have b2 := un j (by omega)
      rw [(hu i).2, (hu j).2, show u i = u j by omega]
    have sh : ∀ k, oIt f (i + k) = oIt f (j + k) := by
      intro k
      induction k with
      | zero => exact e
      | succ k ih => show f (oIt f (i + k)) = f (oIt f (j + k)); rw [ih]
    have h4 := sh (n + 1 - j)
    rw [show j + (n + 1 - j) = 0 + n + 1 by omega, h3] at h4
    exact h2 (i + (n + 1 - j)) (by omega) (by omega) h4
def rM (b : Int32) : Nat := 2 ^ b.toNatClampNeg - 1
theorem r_all {b : Int32} (h0 : ¬ b < 2) (h1 : ¬ (16 : Int32) < b) : 1 <<< (b &&& 31) - 1 = nI (rM b) ∧ 1 <<< (b &&& 31) = nI (rM b + 1) ∧ rM b < 2 ^ 17 ∧ 1 ≤ rM b ∧ (1 <<< (b &&& 31) - 1 : Int32).toBitVec.toNat = 2 ^ b.toNatClampNeg - 1 := by
  obtain ⟨j, j1, j2, rfl⟩ := sw_j (a := 2) (b := 16) (by decide) (by decide) h0 h1
  rcases (show j = 2 ∨ j = 3 ∨ j = 4 ∨ j = 5 ∨ j = 6 ∨ j = 7 ∨ j = 8 ∨ j = 9 ∨ j = 10 ∨ j = 11 ∨ j = 12 ∨ j = 13 ∨ j = 14 ∨ j = 15 ∨ j = 16 by omega) with rfl | rfl | rfl | rfl | rfl | rfl | rfl | rfl | rfl | rfl | rfl | rfl | rfl | rfl | rfl <;> decide +kernel
theorem vin8 {x : Int32} (h0 : (0 : Int32).toInt ≤ x.toInt) (h1 : x.toInt ≤ 7) : vp_in x 8 := by
  have e0 : (0 : Int32).toInt = 0 := by decide
  rw [e0] at h0
  unfold vp_in
  rintro (h | h)
  · have := Int32.lt_iff_toInt_lt.mp h
    rw [e0] at this
    omega
  · have : (x.toNatClampNeg : Int) ≤ 7 := by
      show ((x.toInt.toNat : Nat) : Int) ≤ 7
      omega
    omega
theorem lt8 {x : Int32} (h0 : (0 : Int32).toInt ≤ x.toInt) (h1 : x.toInt ≤ 7) : x = 0 ∨ x = 1 ∨ x = 2 ∨ x = 3 ∨ x = 4 ∨ x = 5 ∨ x = 6 ∨ x = 7 := by
  have e0 : (0 : Int32).toInt = 0 := by decide
  rw [e0] at h0
  have key : ∀ k : Int32, x.toInt = k.toInt → x = k := fun k h => Int32.toInt_inj.mp h
  rcases (show x.toInt = 0 ∨ x.toInt = 1 ∨ x.toInt = 2 ∨ x.toInt = 3 ∨ x.toInt = 4 ∨ x.toInt = 5 ∨ x.toInt = 6 ∨ x.toInt = 7 by omega) with h | h | h | h | h | h | h | h
  · exact Or.inl (key 0 (h.trans (by decide)))
  · exact Or.inr (Or.inl (key 1 (h.trans (by decide))))
  · exact Or.inr (Or.inr (Or.inl (key 2 (h.trans (by decide)))))
  · exact Or.inr (Or.inr (Or.inr (Or.inl (key 3 (h.trans (by decide))))))
  · exact Or.inr (Or.inr (Or.inr (Or.inr (Or.inl (key 4 (h.trans (by decide)))))))
  · exact Or.inr (Or.inr (Or.inr (Or.inr (Or.inr (Or.inl (key 5 (h.trans (by decide))))))))
  · exact Or.inr (Or.inr (Or.inr (Or.inr (Or.inr (Or.inr (Or.inl (key 6 (h.trans (by decide)))))))))
  · exact Or.inr (Or.inr (Or.inr (Or.inr (Or.inr (Or.inr (Or.inr (key 7 (h.trans (by decide)))))))))
theorem bit1 {x : Int32} (h0 : (0 : Int32).toInt ≤ x.toInt) (h1 : x.toInt ≤ 7) : zBits (1 <<< (x &&& 31)) = 1 := by
  rcases lt8 h0 h1 with h | h | h | h | h | h | h | h <;> (rw [h]; decide +kernel)
theorem z_add (x : Int32) : 0 + x = x := Int32.zero_add x
theorem add_z (x : Int32) : x + 0 = x := Int32.add_zero x
theorem z_or (x : Int32) : 0 ||| x = x := Int32.zero_or
theorem or_z (x : Int32) : x ||| 0 = x := Int32.or_zero
theorem z_and (x : Int32) : 0 &&& x = 0 := Int32.zero_and
theorem upd_z {c : Nat} : upd (fun _ => (0 : Int32)) c (vp_nar .boolean 0) = (fun _ => 0) := by
  funext j
  unfold upd
  by_cases h : j = c
  · rw [if_pos h]; decide
  · rw [if_neg h]
/-- how many of the first i places are the c-th -/
def bC (c i : Nat) : Int32 := if c < i then 1 else 0
theorem bC_0 (c : Nat) : (0 : Int32) = bC c 0 := by
  unfold bC
  rw [if_neg (Nat.not_lt_zero c)]
theorem bC_8 {x w : Int32} (h0 : (0 : Int32).toInt ≤ x.toInt) (h1 : x.toInt ≤ 7) {i : Nat} (hi : i = 8) (hw : w = bC x.toNatClampNeg i) : w = 1 := by
  have : (x.toNatClampNeg : Int) ≤ 7 := by
    show ((x.toInt.toNat : Nat) : Int) ≤ 7
    omega
  rw [hw, hi]
  unfold bC
  rw [if_pos (by omega)]
theorem bC_at {c i : Nat} (hi : i < 8) : upd (fun _ => (0 : Int32)) c (vp_nar .boolean 1) (nI i).toNatClampNeg = if i = c then 1 else 0 := by
  rw [nI_clamp (by omega)]
  unfold upd
  by_cases h : i = c
  · rw [if_pos h, if_pos h]; decide
  · rw [if_neg h, if_neg h]
theorem bC_y {c i : Nat} {w : Int32} (hi : i < 8) (h : ¬ upd (fun _ => (0 : Int32)) c (vp_nar .boolean 1) (nI i).toNatClampNeg = 0) (hw : w = bC c i) : w + 1 = bC c (i + 1) := by
  rw [bC_at hi] at h
  have e : i = c := by
    by_cases q : i = c
    · exact q
    · rw [if_neg q] at h
      exact absurd rfl h
  subst e
  rw [hw]
  unfold bC
  rw [if_neg (Nat.lt_irrefl _), if_pos (Nat.lt_succ_self _)]
  decide
theorem bC_n {c i : Nat} {w : Int32} (hi : i < 8) (h : upd (fun _ => (0 : Int32)) c (vp_nar .boolean 1) (nI i).toNatClampNeg = 0) (hw : w = bC c i) : w = bC c (i + 1) := by
  rw [bC_at hi] at h
  have e : ¬ i = c := fun q => by
    rw [if_pos q] at h
    exact absurd h (by decide)
  rw [hw]
  unfold bC
  by_cases q : c < i
  · rw [if_pos q, if_pos (by omega)]
  · rw [if_neg q, if_neg (by omega)]
theorem cpy0z {f g : Nat → Int32} {a b : Nat} : va_cpy f g a b (0 : Int32).toNatClampNeg = g := by
  funext k
  unfold va_cpy
  rw [if_neg (by rw [show (0 : Int32).toNatClampNeg = 0 by decide]; omega)]
theorem cpy0q {f g : Nat → Option Nat} {a b : Nat} : va_cpy f g a b (0 : Int32).toNatClampNeg = g := by
  funext k
  unfold va_cpy
  rw [if_neg (by rw [show (0 : Int32).toNatClampNeg = 0 by decide]; omega)]
theorem fit_b (x : Int32) : fits .byte (.int (vp_nar .byte x)) = true := by
  show (decide ((-128 : Int32) ≤ x.toInt8.toInt32) && decide (x.toInt8.toInt32 ≤ 127)) = true
  have h1 := Int8.le_toInt x.toInt8
  have h2 := Int8.toInt_lt x.toInt8
  have e := Int8.toInt_toInt32 x.toInt8
  rw [Bool.and_eq_true, decide_eq_true_eq, decide_eq_true_eq, Int32.le_iff_toInt_le, Int32.le_iff_toInt_le, e]
  have e1 : (-128 : Int32).toInt = -128 := by decide
  have e2 : (127 : Int32).toInt = 127 := by decide
  rw [e1, e2]
  omega
theorem fit_upd {f : Nat → Int32} {k : Nat} {x : Int32} (h : ∀ j : Nat, fits .byte (.int (f j)) = true) (j : Nat) : fits .byte (.int (upd f k (vp_nar .byte x) j)) = true := by
  unfold upd
  by_cases e : j = k
  · rw [if_pos e]; exact fit_b x
  · rw [if_neg e]; exact h j
theorem fit_cpy {f g : Nat → Int32} {a b n : Nat} (h : ∀ j : Nat, fits .byte (.int (f j)) = true) (h2 : ∀ j : Nat, fits .byte (.int (g j)) = true) (j : Nat) : fits .byte (.int (va_cpy f g a b n j)) = true := by
  unfold va_cpy
  by_cases e : b ≤ j ∧ j < b + n
  · rw [if_pos e]; exact h _
  · rw [if_neg e]; exact h2 j
def abw (c0 : Int32) : Int32 := (1 <<< (c0 &&& 31)) - 1
set_option maxHeartbeats 4000000 in
set_option maxRecDepth 100000 in
theorem k_X8_allBits (l : Launch) (D : va_G) (g : Nat → ClassId) (z0 sz : Nat) (a : Nat → Nat) (c0 : Int32) (c1 : Int32) : Met l yX8_allBits (.code yX8_allBits cX8_allBits 1 (some .int) :: TG) (rmk 0 0 0 0) (va_Pc [.ref (a 7)] (PP D g z0 sz [((a 7), .inr (14, [.ref (a 51), .ref (a 52), .int c0, .int c1]))])) (va_Qi (fun (r : Int32) (u : Unit) => (r = abw c0) ∧ True) (fun (_ : Unit) (_ : State) => True) (va_A [] sz)) 0 0 (va_A [] sz) := by
  refine met0 (cc := cX8_allBits) (n := 1) (by decide) (Nat.le_of_ble_eq_true rfl) ?_
  intro p e s m args below meth c hx hb hr hml hown ht hlocks hnm hP0 hD0 hK hZ hsz hz ls hl
  subst hsz
  have hA : ∀ q : Nat, s.heap.size ≤ q → va_A [] s.heap.size q := Anw
  have hAz : ∀ q, va_A [] s.heap.size q → z0 ≤ q := A0z hz
  have hS : va_S (va_A [] s.heap.size) s.heap s.heap [] := va_S.rf
  have hl : lv_has ls 1 [(0, .ref (a 7))] := hl
  refine lv_iconst (v := 1) hx hb dX8_allBits_0 (by decide) ?_
  refine lv_aload_n hx hb dX8_allBits_1 rfl (lv_at hl 0 rfl) ?_
  refine va_get (D := D) (ci := 14) (v := .int c0) (C := RX8) (T := TX8) (N := 4) hx hb ht in_X8 hown hK.1 (ro0 hP0 hS) 0 rfl rfl 2 (by decide) (ht _ w_1238) (fun _ h9 => h9) rfl dX8_allBits_2 ?_
  refine lv_ishl hx hb dX8_allBits_5 ?_
  refine lv_iconst (v := 1) hx hb dX8_allBits_6 (by decide) ?_
  refine lv_isub hx hb dX8_allBits_7 ?_
  refine W.widen (k := 0) (n := 0) (Nat.le_of_ble_eq_true rfl) (Nat.le_of_ble_eq_true rfl) ?_
  exact W.iret (v := ((1 <<< (c0 &&& 31)) - 1)) hx hb hr (fun t ht9 hW9 => ⟨⟨(1 <<< (c0 &&& 31)) - 1, (), rfl, ⟨rfl, trivial⟩, trivial⟩, hS.F ht9⟩) hS.2.2 dX8_allBits_8 hlocks
def stp (c0 : Int32) (c1 : Int32) (p0 : Int32) : Int32 := ((p0 <<< (1 &&& 31)) ||| ((zBits (p0 &&& c1)) &&& 1)) &&& (abw c0)
set_option maxHeartbeats 4000000 in
set_option maxRecDepth 100000 in
theorem k_X8_stepped (l : Launch) (D : va_G) (g : Nat → ClassId) (z0 sz : Nat) (a : Nat → Nat) (c0 : Int32) (c1 : Int32) (p0 : Int32) : Met l yX8_stepped (.code yX8_stepped cX8_stepped 2 (some .int) :: TG) (rmk 1 0 0 20) (va_Pc [.ref (a 7), .int p0] (PP D g z0 sz [((a 7), .inr (14, [.ref (a 51), .ref (a 52), .int c0, .int c1]))])) (va_Qi (fun (r : Int32) (u : Unit) => (r = stp c0 c1 p0) ∧ True) (fun (_ : Unit) (_ : State) => True) (va_A [] sz)) 0 0 (va_A [] sz) := by
  refine met0 (cc := cX8_stepped) (n := 2) (by decide) (Nat.le_of_ble_eq_true rfl) ?_
  intro p e s m args below meth c hx hb hr hml hown ht hlocks hnm hP0 hD0 hK hZ hsz hz ls hl
  subst hsz
  have hA : ∀ q : Nat, s.heap.size ≤ q → va_A [] s.heap.size q := Anw
  have hAz : ∀ q, va_A [] s.heap.size q → z0 ≤ q := A0z hz
  have hS : va_S (va_A [] s.heap.size) s.heap s.heap [] := va_S.rf
  have hl : lv_has ls 2 [(0, .ref (a 7)), (1, .int p0)] := hl
  refine lv_iload_n hx hb dX8_stepped_0 rfl (lv_at hl 1 rfl) ?_
  refine lv_iconst (v := 1) hx hb dX8_stepped_1 (by decide) ?_
  refine lv_ishl hx hb dX8_stepped_2 ?_
  refine lv_iload_n hx hb dX8_stepped_3 rfl (lv_at hl 1 rfl) ?_
  refine lv_aload_n hx hb dX8_stepped_4 rfl (lv_at hl 0 rfl) ?_
  refine va_get (D := D) (ci := 14) (v := .int c1) (C := RX8) (T := TX8) (N := 4) hx hb ht in_X8 hown hK.1 (ro0 hP0 hS) 0 rfl rfl 3 (by decide) (ht _ w_1244) (fun _ h9 => h9) rfl dX8_stepped_5 ?_
  refine lv_iand hx hb dX8_stepped_8 ?_
  have hPc : va_P D vwCl [] _ := (ro0 hP0 hS).sub (ws' := []) [] rfl
  have hDc : va_D (fun q => z0 ≤ q) [] := hD0.pick (ws' := []) [] (by decide) rfl
  have hFc := AnA (ws := []) hS.1
  refine va_calli (va_runS (As := [.int (p0 &&& c1)]) (rest := [.int (p0 <<< (1 &&& 31))]) ⟨hx, hb, hml, hown, ht⟩ (k_J6_bitCount_0f7a4_v1 l D g z0 _ a (p0 &&& c1)) (va_cwS 1 ht (gS w_1245 w_279 w_280 w_278) rfl rfl rfl (by decide +kernel) (le2 rfl rfl)) ⟨PP.blind, PP.mk' hK hZ hz hAz hS hPc hDc⟩ rfl rfl hl.1 rfl (lv_room (Nat.le_of_ble_eq_true rfl)) dX8_stepped_9 (le2 rfl rfl)) hS (fun q _ h => hFc q h) hFc (fun r u t H locs ht1 hvm hw hB hz1 hk1 hS => ?_)
  obtain ⟨rfl, hw⟩ := hw
  refine lv_iconst (v := 1) hx hb dX8_stepped_12 (by decide) ?_
  refine lv_iand hx hb dX8_stepped_13 ?_
  refine lv_ior hx hb dX8_stepped_14 ?_
  refine lv_aload_n hx hb dX8_stepped_15 rfl (lv_at hl 0 rfl) ?_
  have hPc : va_P D vwCl [((a 7), .inr (14, [.ref (a 51), .ref (a 52), .int c0, .int c1]))] _ := (ro0 hP0 hS).sub (ws' := [((a 7), .inr (14, [.ref (a 51), .ref (a 52), .int c0, .int c1]))]) [0] rfl
  have hDc : va_D (fun q => z0 ≤ q) [((a 7), .inr (14, [.ref (a 51), .ref (a 52), .int c0, .int c1]))] := hD0.pick (ws' := [((a 7), .inr (14, [.ref (a 51), .ref (a 52), .int c0, .int c1]))]) [0] (by decide) rfl
  have hFc := AnA (ws := []) hS.1
  refine va_calli (va_runV (As := []) (rest := [.int ((p0 <<< (1 &&& 31)) ||| ((zBits (p0 &&& c1)) &&& 1))]) ⟨hx, hb, hml, hown, ht⟩ (k_X8_allBits l D g z0 _ a c0 c1) (cwV 0 ht (gV w_1239 w_1241 w_1242 w_1243 w_1240) rfl rfl rfl (by decide +kernel) (le2 rfl rfl)) ⟨PP.blind, va_recv hK.1 (ro0 hP0 hS) (ci := 14) (q0 := 0) rfl rfl, PP.mk' hK hZ hz hAz hS hPc hDc⟩ rfl rfl hl.1 rfl (lv_room (Nat.le_of_ble_eq_true rfl)) dX8_stepped_16 (le2 rfl rfl)) hS (fun q _ h => hFc q h) hFc (fun r u t H locs ht1 hvm hw hB hz1 hk1 hS => ?_)
  obtain ⟨rfl, hw⟩ := hw
  refine lv_iand hx hb dX8_stepped_19 ?_
  refine W.widen (k := 0) (n := 0) (Nat.le_of_ble_eq_true rfl) (Nat.le_of_ble_eq_true rfl) ?_
  exact W.iret (v := (((p0 <<< (1 &&& 31)) ||| ((zBits (p0 &&& c1)) &&& 1)) &&& (abw c0))) hx hb hr (fun t ht9 hW9 => ⟨⟨((p0 <<< (1 &&& 31)) ||| ((zBits (p0 &&& c1)) &&& 1)) &&& (abw c0), (), rfl, ⟨rfl, trivial⟩, trivial⟩, hS.F ht9⟩) hS.2.2 dX8_stepped_20 hlocks
theorem ring_end {b : Int32} {i : Nat} (h0 : ¬ b < 2) (h1 : ¬ (16 : Int32) < b) (hi : i = rM b + 1) : abw b < nI i := by
  obtain ⟨a1, a2, a3, -⟩ := r_all h0 h1
  show 1 <<< (b &&& 31) - 1 < nI i
  rw [a1, hi]
  exact nI_lt (by omega) (by omega)
theorem ring_in {b : Int32} {i : Nat} (h0 : ¬ b < 2) (h1 : ¬ (16 : Int32) < b) (hi : i < rM b + 1) : ¬ abw b < nI i := by
  obtain ⟨a1, a2, a3, -⟩ := r_all h0 h1
  show ¬ 1 <<< (b &&& 31) - 1 < nI i
  rw [a1]
  exact nI_nlt (by omega) (by omega)
theorem stp_0 (b t : Int32) : stp b t 0 = 0 := by
  unfold stp
  rw [show (0 : Int32) &&& t = 0 from Int32.zero_and, show zBits 0 = 0 by decide +kernel]
  exact Int32.zero_and
theorem stp_r {b t : Int32} (h0 : ¬ b < 2) (h1 : ¬ (16 : Int32) < b) (x : Int32) : ∃ j, j ≤ rM b ∧ stp b t x = nI j := by
  obtain ⟨a1, a2, a3, a4, a5⟩ := r_all h0 h1
  unfold stp
  obtain ⟨j, hj, e⟩ := pk_andE (x <<< 1 ||| zBits (x &&& t) &&& 1) (m := abw b) b.toNatClampNeg a5
  exact ⟨j, by unfold rM; omega, e⟩

set_option maxHeartbeats 4000000 in
set_option maxRecDepth 100000 in
theorem k_X8_stepsBackToOne (l : Launch) (D : va_G) (g : Nat → ClassId) (z0 sz : Nat) (a : Nat → Nat) (c0 : Int32) (c1 : Int32) (hy0 : ¬ c0 < 2) (hy1 : c0 ≤ 16) : Met l yX8_stepsBackToOne (.code yX8_stepsBackToOne cX8_stepsBackToOne 3 (some .int) :: TG) (rmk 2 0 0 41) (va_Pc [.ref (a 7)] (PP D g z0 sz [((a 7), .inr (14, [.ref (a 51), .ref (a 52), .int c0, .int c1]))])) (va_Qi (fun (r : Int32) (u : Unit) => (r = oGo (stp c0 c1) (rM c0) 1 1) ∧ True) (fun (_ : Unit) (_ : State) => True) (va_A [] sz)) 0 0 (va_A [] sz) := by
  refine met0 (cc := cX8_stepsBackToOne) (n := 3) (by decide) (Nat.le_of_ble_eq_true rfl) ?_
  intro p e s m args below meth c hx hb hr hml hown ht hlocks hnm hP0 hD0 hK hZ hsz hz ls hl
  subst hsz
  have hA : ∀ q : Nat, s.heap.size ≤ q → va_A [] s.heap.size q := Anw
  have hAz : ∀ q, va_A [] s.heap.size q → z0 ≤ q := A0z hz
  have hS : va_S (va_A [] s.heap.size) s.heap s.heap [] := va_S.rf
  have hl : lv_has ls 3 [(0, .ref (a 7))] := hl
  refine lv_iconst (v := 1) hx hb dX8_stepsBackToOne_0 (by decide) ?_
  refine lv_istore_n (lv' := [(1, .int 1), (0, .ref (a 7))]) hx hb dX8_stepsBackToOne_1 rfl hl (by decide) rfl (fun ls hl => ?_)
  refine lv_iconst (v := 1) hx hb dX8_stepsBackToOne_2 (by decide) ?_
  refine lv_istore_n (lv' := [(2, .int 1), (1, .int 1), (0, .ref (a 7))]) hx hb dX8_stepsBackToOne_3 rfl hl (by decide) rfl (fun ls hl => ?_)
  have loop : ∀ (k i : Nat), rM c0 + 1 = i + k → ∀ (w : Int32) (hw9 : oGo (stp c0 c1) k i w = oGo (stp c0 c1) (rM c0) 1 1) (H : Heap) (locs : List Loc), va_S (va_A [] s.heap.size) s.heap H locs → ∀ (ls : Array Slot), lv_has ls 3 [(2, .int (nI i)), (1, .int w), (0, .ref (a 7))] → W p l e (rmk 2 0 0 41) s m args below meth c H locs 0 0 (MQ below (va_Qi (fun (r : Int32) (u : Unit) => (r = oGo (stp c0 c1) (rM c0) 1 1) ∧ True) (fun (_ : Unit) (_ : State) => True) (va_A [] s.heap.size)) args s 0 0 (va_A [] s.heap.size)) (F0 m 4 ls []) := by
    intro k
    induction k with
    | zero =>
      intro i hi w hw9 H locs hS ls hl
      have hi0 : i = rM c0 + 1 := by omega
      refine lv_iload_n hx hb dX8_stepsBackToOne_4 rfl (lv_at hl 0 rfl) ?_
      refine lv_aload_n hx hb dX8_stepsBackToOne_5 rfl (lv_at hl 2 rfl) ?_
      have hPc : va_P D vwCl [((a 7), .inr (14, [.ref (a 51), .ref (a 52), .int c0, .int c1]))] _ := (ro0 hP0 hS).sub (ws' := [((a 7), .inr (14, [.ref (a 51), .ref (a 52), .int c0, .int c1]))]) [0] rfl
      have hDc : va_D (fun q => z0 ≤ q) [((a 7), .inr (14, [.ref (a 51), .ref (a 52), .int c0, .int c1]))] := hD0.pick (ws' := [((a 7), .inr (14, [.ref (a 51), .ref (a 52), .int c0, .int c1]))]) [0] (by decide) rfl
      have hFc := AnA (ws := []) hS.1
      refine va_calli (va_runV (As := []) (rest := [.int (nI i)]) ⟨hx, hb, hml, hown, ht⟩ (k_X8_allBits l D g z0 _ a c0 c1) (cwV 0 ht (gV w_1239 w_1241 w_1242 w_1243 w_1240) rfl rfl rfl (by decide +kernel) (le2 rfl rfl)) ⟨PP.blind, va_recv hK.1 (ro0 hP0 hS) (ci := 14) (q0 := 0) rfl rfl, PP.mk' hK hZ hz hAz hS hPc hDc⟩ rfl rfl hl.1 rfl (lv_room (Nat.le_of_ble_eq_true rfl)) dX8_stepsBackToOne_6 (le2 rfl rfl)) hS (fun q _ h => hFc q h) hFc (fun r u t H locs ht1 hvm hw hB hz1 hk1 hS => ?_)
      obtain ⟨rfl, hw⟩ := hw
      refine lv_icmp_gt (tgt := 31) hx hb dX8_stepsBackToOne_9 (by decide) (fun c_1 => ?_) (fun c_1 => absurd (ring_end hy0 (Int32.not_lt.mpr hy1) hi0) c_1)
      refine lv_iconst (v := 0) hx hb dX8_stepsBackToOne_31 (by decide) ?_
      refine W.widen (k := 0) (n := 0) (Nat.le_of_ble_eq_true rfl) (Nat.le_of_ble_eq_true rfl) ?_
      exact W.iret (v := 0) hx hb hr (fun t ht9 hW9 => ⟨⟨0, (), rfl, ⟨(hw9), trivial⟩, trivial⟩, hS.F ht9⟩) hS.2.2 dX8_stepsBackToOne_32 hlocks
    | succ k ih =>
      intro i hi w hw9 H locs hS ls hl
      have hlt : i < rM c0 + 1 := by omega
      refine lv_iload_n hx hb dX8_stepsBackToOne_4 rfl (lv_at hl 0 rfl) ?_
      refine lv_aload_n hx hb dX8_stepsBackToOne_5 rfl (lv_at hl 2 rfl) ?_
      have hPc : va_P D vwCl [((a 7), .inr (14, [.ref (a 51), .ref (a 52), .int c0, .int c1]))] _ := (ro0 hP0 hS).sub (ws' := [((a 7), .inr (14, [.ref (a 51), .ref (a 52), .int c0, .int c1]))]) [0] rfl
      have hDc : va_D (fun q => z0 ≤ q) [((a 7), .inr (14, [.ref (a 51), .ref (a 52), .int c0, .int c1]))] := hD0.pick (ws' := [((a 7), .inr (14, [.ref (a 51), .ref (a 52), .int c0, .int c1]))]) [0] (by decide) rfl
      have hFc := AnA (ws := []) hS.1
      refine va_calli (va_runV (As := []) (rest := [.int (nI i)]) ⟨hx, hb, hml, hown, ht⟩ (k_X8_allBits l D g z0 _ a c0 c1) (cwV 0 ht (gV w_1239 w_1241 w_1242 w_1243 w_1240) rfl rfl rfl (by decide +kernel) (le2 rfl rfl)) ⟨PP.blind, va_recv hK.1 (ro0 hP0 hS) (ci := 14) (q0 := 0) rfl rfl, PP.mk' hK hZ hz hAz hS hPc hDc⟩ rfl rfl hl.1 rfl (lv_room (Nat.le_of_ble_eq_true rfl)) dX8_stepsBackToOne_6 (le2 rfl rfl)) hS (fun q _ h => hFc q h) hFc (fun r u t H locs ht1 hvm hw hB hz1 hk1 hS => ?_)
      obtain ⟨rfl, hw⟩ := hw
      refine lv_icmp_gt (tgt := 31) hx hb dX8_stepsBackToOne_9 (by decide) (fun c_2 => absurd c_2 (ring_in hy0 (Int32.not_lt.mpr hy1) hlt)) (fun c_2 => ?_)
      refine lv_aload_n hx hb dX8_stepsBackToOne_12 rfl (lv_at hl 2 rfl) ?_
      refine lv_iload_n hx hb dX8_stepsBackToOne_13 rfl (lv_at hl 1 rfl) ?_
      have hPc : va_P D vwCl [((a 7), .inr (14, [.ref (a 51), .ref (a 52), .int c0, .int c1]))] _ := (ro0 hP0 hS).sub (ws' := [((a 7), .inr (14, [.ref (a 51), .ref (a 52), .int c0, .int c1]))]) [0] rfl
      have hDc : va_D (fun q => z0 ≤ q) [((a 7), .inr (14, [.ref (a 51), .ref (a 52), .int c0, .int c1]))] := hD0.pick (ws' := [((a 7), .inr (14, [.ref (a 51), .ref (a 52), .int c0, .int c1]))]) [0] (by decide) rfl
      have hFc := AnA (ws := []) hS.1
      refine va_calli (va_runV (As := [.int w]) (rest := []) ⟨hx, hb, hml, hown, ht⟩ (k_X8_stepped l D g z0 _ a c0 c1 w) (cwV 1 ht (gV w_1246 w_1248 w_1249 w_1243 w_1247) rfl rfl rfl (by decide +kernel) (le2 rfl rfl)) ⟨PP.blind, va_recv hK.1 (ro0 hP0 hS) (ci := 14) (q0 := 0) rfl rfl, PP.mk' hK hZ hz hAz hS hPc hDc⟩ rfl rfl hl.1 rfl (lv_room (Nat.le_of_ble_eq_true rfl)) dX8_stepsBackToOne_14 (le2 rfl rfl)) hS (fun q _ h => hFc q h) hFc (fun r u t H locs ht1 hvm hw hB hz1 hk1 hS => ?_)
      obtain ⟨rfl, hw⟩ := hw
      refine lv_istore_n (lv' := [(1, .int (stp c0 c1 w)), (2, .int (nI i)), (0, .ref (a 7))]) hx hb dX8_stepsBackToOne_17 rfl hl (by decide) rfl (fun ls hl => ?_)
      refine lv_iload_n hx hb dX8_stepsBackToOne_18 rfl (lv_at hl 0 rfl) ?_
      refine lv_iconst (v := 1) hx hb dX8_stepsBackToOne_19 (by decide) ?_
      refine lv_icmp_ne (tgt := 25) hx hb dX8_stepsBackToOne_20 (by decide) (fun c_3 => ?_) (fun c_3 => ?_)
      · refine lv_iinc (v := nI (i + 1)) (lv' := [(2, .int (nI (i + 1))), (1, .int (stp c0 c1 w)), (0, .ref (a 7))]) hx hb dX8_stepsBackToOne_25 hl (k := 1) rfl (nI_1 i) (by decide) rfl (fun ls hl => ?_)
        refine lv_goto (tgt := 4) hx hb dX8_stepsBackToOne_28 (by decide) ?_
        exact ih (i + 1) (by omega) (stp c0 c1 w) (oGo_n c_3 hw9) H locs hS ls (lv_sub hl [0, 1, 2] rfl)
      · refine lv_iload_n hx hb dX8_stepsBackToOne_23 rfl (lv_at hl 1 rfl) ?_
        refine W.widen (k := 0) (n := 0) (Nat.le_of_ble_eq_true rfl) (Nat.le_of_ble_eq_true rfl) ?_
        exact W.iret (v := (nI i)) hx hb hr (fun t ht9 hW9 => ⟨⟨nI i, (), rfl, ⟨((oGo_y c_3 hw9)), trivial⟩, trivial⟩, hS.F ht9⟩) hS.2.2 dX8_stepsBackToOne_24 hlocks
  exact loop (rM c0) 1 (by omega) 1 rfl _ _ hS ls (lv_sub hl [0, 1, 2] rfl)
set_option maxHeartbeats 4000000 in
set_option maxRecDepth 100000 in
theorem k_X11_setRing (l : Launch) (hfl : l.stackTraces = false) (D : va_G) (g : Nat → ClassId) (z0 sz : Nat) (a : Nat → Nat) (p0 : Int32) (p1 : Int32) : vx_Met l yX11_setRing (.code yX11_setRing cX11_setRing 3 (some .int) :: TG) (rmk 7 2 12 103) (va_Pc [.ref (a 0), .int p0, .int p1] (PP D g z0 sz [((a 0), f_x a), ((a 7), f_ring a)])) (va_Qi (fun (r : Int32) (u : Unit) => (r = oGo (stp p0 p1) (rM p0) 1 1) ∧ ((¬ p0 < 2) ∧ (p0 ≤ 16) ∧ (¬ p1 < 1) ∧ (p1 ≤ ((1 <<< (p0 &&& 31)) - 1)))) (fun (u : Unit) (t : State) => va_P D vwCl [] t.heap ∧ va_D (va_A [((a 0), f_x a), ((a 7), f_ring a)] sz) []) (va_A [((a 0), f_x a), ((a 7), f_ring a)] sz)) (vx_X (fun _ : Unit => True) (fun E _ _ => (E = "java/lang/IllegalArgumentException" ∧ ((p0 < 2) ∨ ((¬ p0 < 2) ∧ (¬ p0 ≤ 16)) ∨ ((¬ p0 < 2) ∧ (p0 ≤ 16) ∧ (p1 < 1)) ∨ ((¬ p0 < 2) ∧ (p0 ≤ 16) ∧ (¬ p1 < 1) ∧ (¬ p1 ≤ ((1 <<< (p0 &&& 31)) - 1)))))) (va_A [((a 0), f_x a), ((a 7), f_ring a)] sz)) 2 12 (va_A [((a 0), f_x a), ((a 7), f_ring a)] sz) := by
  refine vxm0 (cc := cX11_setRing) (n := 3) (by decide) (Nat.le_of_ble_eq_true rfl) ?_
  intro p e s m args below meth c hx hb hr hml htab hown ht hlocks hnm hP0 hD0 hK hZ hsz hz ls hl
  subst hsz
  have hA : ∀ q : Nat, s.heap.size ≤ q → va_A [((a 0), f_x a), ((a 7), f_ring a)] s.heap.size q := Anw
  have hAz : ∀ q, va_A [((a 0), f_x a), ((a 7), f_ring a)] s.heap.size q → z0 ≤ q := Awz hz hD0
  have hS : va_S (va_A [((a 0), f_x a), ((a 7), f_ring a)] s.heap.size) s.heap s.heap [] := va_S.rf
  have hD : va_D (va_A [((a 0), f_x a), ((a 7), f_ring a)] s.heap.size) [((a 0), f_x a), ((a 7), f_ring a)] := hD0.self
  have hP : va_P D vwCl [((a 0), f_x a), ((a 7), f_ring a)] s.heap := hP0
  have hl : lv_has ls 3 [(0, .ref (a 0)), (1, .int p0), (2, .int p1)] := hl
  refine lv_iload_n hx hb dX11_setRing_0 rfl (lv_at hl 1 rfl) ?_
  refine lv_iconst (v := 2) hx hb dX11_setRing_1 (by decide) ?_
  refine lv_bipush (v := 16) hx hb dX11_setRing_2 (by decide) ?_
  have hPc : va_P D vwCl [] _ := hP.sub (ws' := []) [] rfl
  have hDc : va_D (fun q => z0 ≤ q) [] := (hD.to hAz).pick (ws' := []) [] (by decide) rfl
  have hFc := AnA (ws := [((a 0), f_x a), ((a 7), f_ring a)]) hS.1
  refine vx_callv (vx_runS (As := [.int p0, .int 2, .int 16]) (rest := []) ⟨hx, hb, hml, hown, ht⟩ (k_X11_needRange l hfl D g z0 _ a p0 2 16) (va_cwS 3 ht (gS w_51 w_53 w_31 w_52) rfl rfl rfl (by decide +kernel) (le2 rfl rfl)) ⟨PP.blind, PP.mk' hK hZ hz hAz hS hPc hDc⟩ rfl rfl hl.1 rfl (lv_room (Nat.le_of_ble_eq_true rfl)) dX11_setRing_4 (le2 rfl rfl)) hS (fun q _ h => hFc q h) hFc (fun q _ h => hFc q h) (fun E ce q9 u t H locs ht1 hvm hw hB hz1 hk1 hS hcell hv9 hcl => ?_) (fun u t H locs ht1 hvm hw hB hz1 hk1 hS => ?_)
  · obtain ⟨rfl, hB⟩ := hB
    rcases hB with hB | hB
    · have c_1 := hB
      exact out0 htab hlocks hS hcell hv9 hcl (fun t _ hF => ⟨(), trivial, ⟨rfl, (Or.inl c_1)⟩, hF⟩) (fun _ h => h) rfl rfl
    · obtain ⟨c_2, c_3⟩ := hB
      exact out0 htab hlocks hS hcell hv9 hcl (fun t _ hF => ⟨(), trivial, ⟨rfl, (Or.inr (Or.inl ⟨c_2, c_3⟩))⟩, hF⟩) (fun _ h => h) rfl rfl
  · obtain ⟨c_4, c_5⟩ := hw
    have hP := ro1 hP hk1
    refine lv_iload_n hx hb dX11_setRing_7 rfl (lv_at hl 2 rfl) ?_
    refine lv_iconst (v := 1) hx hb dX11_setRing_8 (by decide) ?_
    refine lv_iconst (v := 1) hx hb dX11_setRing_9 (by decide) ?_
    refine lv_iload_n hx hb dX11_setRing_10 rfl (lv_at hl 1 rfl) ?_
    refine lv_ishl hx hb dX11_setRing_11 ?_
    refine lv_iconst (v := 1) hx hb dX11_setRing_12 (by decide) ?_
    refine lv_isub hx hb dX11_setRing_13 ?_
    have hPc : va_P D vwCl [] _ := hP.sub (ws' := []) [] rfl
    have hDc : va_D (fun q => z0 ≤ q) [] := (hD.to hAz).pick (ws' := []) [] (by decide) rfl
    have hFc := AnA (ws := [((a 0), f_x a), ((a 7), f_ring a)]) hS.1
    refine vx_callv (vx_runS (As := [.int p1, .int 1, .int ((1 <<< (p0 &&& 31)) - 1)]) (rest := []) ⟨hx, hb, hml, hown, ht⟩ (k_X11_needRange l hfl D g z0 _ a p1 1 ((1 <<< (p0 &&& 31)) - 1)) (va_cwS 3 ht (gS w_51 w_53 w_31 w_52) rfl rfl rfl (by decide +kernel) (le2 rfl rfl)) ⟨PP.blind, PP.mk' hK hZ hz hAz hS hPc hDc⟩ rfl rfl hl.1 rfl (lv_room (Nat.le_of_ble_eq_true rfl)) dX11_setRing_14 (le2 rfl rfl)) hS (fun q _ h => hFc q h) hFc (fun q _ h => hFc q h) (fun E ce q9 u t H locs ht1 hvm hw hB hz1 hk1 hS hcell hv9 hcl => ?_) (fun u t H locs ht1 hvm hw hB hz1 hk1 hS => ?_)
    · obtain ⟨rfl, hB⟩ := hB
      rcases hB with hB | hB
      · have c_6 := hB
        exact out0 htab hlocks hS hcell hv9 hcl (fun t _ hF => ⟨(), trivial, ⟨rfl, (Or.inr (Or.inr (Or.inl ⟨c_4, c_5, c_6⟩)))⟩, hF⟩) (fun _ h => h) rfl rfl
      · obtain ⟨c_7, c_8⟩ := hB
        exact out0 htab hlocks hS hcell hv9 hcl (fun t _ hF => ⟨(), trivial, ⟨rfl, (Or.inr (Or.inr (Or.inr ⟨c_4, c_5, c_7, c_8⟩)))⟩, hF⟩) (fun _ h => h) rfl rfl
    · obtain ⟨c_9, c_10⟩ := hw
      have hP := ro1 hP hk1
      refine lv_aload_n hx hb dX11_setRing_17 rfl (lv_at hl 0 rfl) ?_
      refine va_get (D := D) (ci := 17) (v := .ref (a 7)) (C := RX11) (T := TX11) (N := 11) hx hb ht in_X11 hown hK.1 hP 0 rfl rfl 6 (by decide) (ht _ w_1235) (fun _ h9 => h9) rfl dX11_setRing_18 ?_
      refine lv_iload_n hx hb dX11_setRing_21 rfl (lv_at hl 1 rfl) ?_
      refine va_put (D := D) (ci := 14) (v := .int p0) (ty := .int) (C := RX8) (T := TX8) (N := 4) hx hb ht in_X8 tyX8 tyX8_ok nmX8 hown hK.1 hP hD hS 1 rfl rfl 2 (by decide) (ht _ w_1236) (fun _ h9 => h9) rfl (by decide +kernel) rfl rfl (Nat.le_of_ble_eq_true rfl) dX11_setRing_22 (fun H locs hP hD hS => ?_)
      have hP : va_P D vwCl [((a 0), f_x a), ((a 7), .inr (14, [.ref (a 51), .ref (a 52), .int p0, .int 12]))] H := hP
      have hD : va_D (va_A [((a 0), f_x a), ((a 7), f_ring a)] s.heap.size) [((a 0), f_x a), ((a 7), .inr (14, [.ref (a 51), .ref (a 52), .int p0, .int 12]))] := hD
      refine lv_aload_n hx hb dX11_setRing_25 rfl (lv_at hl 0 rfl) ?_
      refine va_get (D := D) (ci := 17) (v := .ref (a 7)) (C := RX11) (T := TX11) (N := 11) hx hb ht in_X11 hown hK.1 hP 0 rfl rfl 6 (by decide) (ht _ w_1235) (fun _ h9 => h9) rfl dX11_setRing_26 ?_
      refine lv_iload_n hx hb dX11_setRing_29 rfl (lv_at hl 2 rfl) ?_
      refine va_put (D := D) (ci := 14) (v := .int p1) (ty := .int) (C := RX8) (T := TX8) (N := 4) hx hb ht in_X8 tyX8 tyX8_ok nmX8 hown hK.1 hP hD hS 1 rfl rfl 3 (by decide) (ht _ w_1237) (fun _ h9 => h9) rfl (by decide +kernel) rfl rfl (Nat.le_of_ble_eq_true rfl) dX11_setRing_30 (fun H locs hP hD hS => ?_)
      have hP : va_P D vwCl [((a 0), f_x a), ((a 7), .inr (14, [.ref (a 51), .ref (a 52), .int p0, .int p1]))] H := hP
      have hD : va_D (va_A [((a 0), f_x a), ((a 7), f_ring a)] s.heap.size) [((a 0), f_x a), ((a 7), .inr (14, [.ref (a 51), .ref (a 52), .int p0, .int p1]))] := hD
      refine lv_aload_n hx hb dX11_setRing_33 rfl (lv_at hl 0 rfl) ?_
      refine va_get (D := D) (ci := 17) (v := .ref (a 7)) (C := RX11) (T := TX11) (N := 11) hx hb ht in_X11 hown hK.1 hP 0 rfl rfl 6 (by decide) (ht _ w_1235) (fun _ h9 => h9) rfl dX11_setRing_34 ?_
      have hPc : va_P D vwCl [((a 7), .inr (14, [.ref (a 51), .ref (a 52), .int p0, .int p1]))] _ := hP.sub (ws' := [((a 7), .inr (14, [.ref (a 51), .ref (a 52), .int p0, .int p1]))]) [1] rfl
      have hDc : va_D (fun q => z0 ≤ q) [((a 7), .inr (14, [.ref (a 51), .ref (a 52), .int p0, .int p1]))] := (hD.to hAz).pick (ws' := [((a 7), .inr (14, [.ref (a 51), .ref (a 52), .int p0, .int p1]))]) [1] (by decide) rfl
      have hFc := AnA (ws := [((a 0), f_x a), ((a 7), f_ring a)]) hS.1
      refine va_calli (va_runV (As := []) (rest := []) ⟨hx, hb, hml, hown, ht⟩ (k_X8_stepsBackToOne l D g z0 _ a p0 p1 c_4 c_5) (cwV 0 ht (gV w_1250 w_1252 w_1253 w_1243 w_1251) rfl rfl rfl (by decide +kernel) (le2 rfl rfl)) ⟨PP.blind, va_recv hK.1 hP (ci := 14) (q0 := 1) rfl rfl, PP.mk' hK hZ hz hAz hS hPc hDc⟩ rfl rfl hl.1 rfl (lv_room (Nat.le_of_ble_eq_true rfl)) dX11_setRing_37 (le2 rfl rfl)) hS (fun q _ h => hFc q h) hFc (fun r u t H locs ht1 hvm hw hB hz1 hk1 hS => ?_)
      obtain ⟨rfl, hw⟩ := hw
      have hP := ro1 hP hk1
      have hP9 := hP.sub (ws' := []) [] rfl
      have hD9 := hD.sub (ws' := []) [] (by decide) rfl
      refine vx_ret (W.widen (k := 2) (n := 12) (Nat.le_of_ble_eq_true rfl) (Nat.le_of_ble_eq_true rfl) ?_)
      exact W.iret (v := (oGo (stp p0 p1) (rM p0) 1 1)) hx hb hr (fun t ht9 hW9 => ⟨⟨oGo (stp p0 p1) (rM p0) 1 1, (), rfl, ⟨rfl, ⟨c_4, c_5, c_9, c_10⟩⟩, ⟨(by rw [ht9]; exact hP9), hD9⟩⟩, hS.F ht9⟩) hS.2.2 dX11_setRing_40 hlocks
set_option maxHeartbeats 4000000 in
set_option maxRecDepth 100000 in
theorem k_X15_isBetween_v11 (l : Launch) (D : va_G) (g : Nat → ClassId) (z0 sz : Nat) (a : Nat → Nat) (p0 : Int32) : Met l yX15_isBetween (.code yX15_isBetween cX15_isBetween 3 (some .boolean) :: TG) (rmk 0 0 0 0) (va_Pc [.int p0, .int 2, .int 16] (PP D g z0 sz [])) (va_Qi (fun (r : Int32) (u : Unit) => ((r = 0) ∧ ((p0 < 2) ∨ ((¬ p0 < 2) ∧ ((16 : Int32) < p0)))) ∨ ((r = 1) ∧ ((¬ p0 < 2) ∧ (¬ (16 : Int32) < p0)))) (fun (_ : Unit) (_ : State) => True) (va_A [] sz)) 0 0 (va_A [] sz) := by
  refine met0 (cc := cX15_isBetween) (n := 3) (by decide) (Nat.le_of_ble_eq_true rfl) ?_
  intro p e s m args below meth c hx hb hr hml hown ht hlocks hnm hP0 hD0 hK hZ hsz hz ls hl
  subst hsz
  have hA : ∀ q : Nat, s.heap.size ≤ q → va_A [] s.heap.size q := Anw
  have hAz : ∀ q, va_A [] s.heap.size q → z0 ≤ q := A0z hz
  have hS : va_S (va_A [] s.heap.size) s.heap s.heap [] := va_S.rf
  have hl : lv_has ls 3 [(0, .int p0), (1, .int 2), (2, .int 16)] := hl
  refine lv_iload_n hx hb dX15_isBetween_0 rfl (lv_at hl 1 rfl) ?_
  refine lv_iload_n hx hb dX15_isBetween_1 rfl (lv_at hl 0 rfl) ?_
  refine lv_icmp_gt (tgt := 14) hx hb dX15_isBetween_2 (by decide) (fun c_1 => ?_) (fun c_1 => ?_)
  · refine lv_iconst (v := 0) hx hb dX15_isBetween_14 (by decide) ?_
    refine W.widen (k := 0) (n := 0) (Nat.le_of_ble_eq_true rfl) (Nat.le_of_ble_eq_true rfl) ?_
    exact W.zret (v := 0) hx hb hr rfl (fun t ht9 hW9 => ⟨⟨0, (), rfl, (Or.inl ⟨rfl, (Or.inl c_1)⟩), trivial⟩, hS.F ht9⟩) hS.2.2 dX15_isBetween_15 hlocks
  · refine lv_iload_n hx hb dX15_isBetween_5 rfl (lv_at hl 0 rfl) ?_
    refine lv_iload_n hx hb dX15_isBetween_6 rfl (lv_at hl 2 rfl) ?_
    refine lv_icmp_gt (tgt := 14) hx hb dX15_isBetween_7 (by decide) (fun c_2 => ?_) (fun c_2 => ?_)
    · refine lv_iconst (v := 0) hx hb dX15_isBetween_14 (by decide) ?_
      refine W.widen (k := 0) (n := 0) (Nat.le_of_ble_eq_true rfl) (Nat.le_of_ble_eq_true rfl) ?_
      exact W.zret (v := 0) hx hb hr rfl (fun t ht9 hW9 => ⟨⟨0, (), rfl, (Or.inl ⟨rfl, (Or.inr ⟨c_1, c_2⟩)⟩), trivial⟩, hS.F ht9⟩) hS.2.2 dX15_isBetween_15 hlocks
    · refine lv_iconst (v := 1) hx hb dX15_isBetween_10 (by decide) ?_
      refine lv_goto (tgt := 15) hx hb dX15_isBetween_11 (by decide) ?_
      refine W.widen (k := 0) (n := 0) (Nat.le_of_ble_eq_true rfl) (Nat.le_of_ble_eq_true rfl) ?_
      exact W.zret (v := 1) hx hb hr rfl (fun t ht9 hW9 => ⟨⟨1, (), rfl, (Or.inr ⟨rfl, ⟨c_1, c_2⟩⟩), trivial⟩, hS.F ht9⟩) hS.2.2 dX15_isBetween_15 hlocks
set_option maxHeartbeats 4000000 in
set_option maxRecDepth 100000 in
theorem k_X15_isBetween_v12 (l : Launch) (D : va_G) (g : Nat → ClassId) (z0 sz : Nat) (a : Nat → Nat) (p0 : Int32) (p1 : Int32) : Met l yX15_isBetween (.code yX15_isBetween cX15_isBetween 3 (some .boolean) :: TG) (rmk 0 0 0 0) (va_Pc [.int p0, .int 1, .int p1] (PP D g z0 sz [])) (va_Qi (fun (r : Int32) (u : Unit) => ((r = 0) ∧ ((p0 < 1) ∨ ((¬ p0 < 1) ∧ (p1 < p0)))) ∨ ((r = 1) ∧ ((¬ p0 < 1) ∧ (¬ p1 < p0)))) (fun (_ : Unit) (_ : State) => True) (va_A [] sz)) 0 0 (va_A [] sz) := by
  refine met0 (cc := cX15_isBetween) (n := 3) (by decide) (Nat.le_of_ble_eq_true rfl) ?_
  intro p e s m args below meth c hx hb hr hml hown ht hlocks hnm hP0 hD0 hK hZ hsz hz ls hl
  subst hsz
  have hA : ∀ q : Nat, s.heap.size ≤ q → va_A [] s.heap.size q := Anw
  have hAz : ∀ q, va_A [] s.heap.size q → z0 ≤ q := A0z hz
  have hS : va_S (va_A [] s.heap.size) s.heap s.heap [] := va_S.rf
  have hl : lv_has ls 3 [(0, .int p0), (1, .int 1), (2, .int p1)] := hl
  refine lv_iload_n hx hb dX15_isBetween_0 rfl (lv_at hl 1 rfl) ?_
  refine lv_iload_n hx hb dX15_isBetween_1 rfl (lv_at hl 0 rfl) ?_
  refine lv_icmp_gt (tgt := 14) hx hb dX15_isBetween_2 (by decide) (fun c_1 => ?_) (fun c_1 => ?_)
  · refine lv_iconst (v := 0) hx hb dX15_isBetween_14 (by decide) ?_
    refine W.widen (k := 0) (n := 0) (Nat.le_of_ble_eq_true rfl) (Nat.le_of_ble_eq_true rfl) ?_
    exact W.zret (v := 0) hx hb hr rfl (fun t ht9 hW9 => ⟨⟨0, (), rfl, (Or.inl ⟨rfl, (Or.inl c_1)⟩), trivial⟩, hS.F ht9⟩) hS.2.2 dX15_isBetween_15 hlocks
  · refine lv_iload_n hx hb dX15_isBetween_5 rfl (lv_at hl 0 rfl) ?_
    refine lv_iload_n hx hb dX15_isBetween_6 rfl (lv_at hl 2 rfl) ?_
    refine lv_icmp_gt (tgt := 14) hx hb dX15_isBetween_7 (by decide) (fun c_2 => ?_) (fun c_2 => ?_)
    · refine lv_iconst (v := 0) hx hb dX15_isBetween_14 (by decide) ?_
      refine W.widen (k := 0) (n := 0) (Nat.le_of_ble_eq_true rfl) (Nat.le_of_ble_eq_true rfl) ?_
      exact W.zret (v := 0) hx hb hr rfl (fun t ht9 hW9 => ⟨⟨0, (), rfl, (Or.inl ⟨rfl, (Or.inr ⟨c_1, c_2⟩)⟩), trivial⟩, hS.F ht9⟩) hS.2.2 dX15_isBetween_15 hlocks
    · refine lv_iconst (v := 1) hx hb dX15_isBetween_10 (by decide) ?_
      refine lv_goto (tgt := 15) hx hb dX15_isBetween_11 (by decide) ?_
      refine W.widen (k := 0) (n := 0) (Nat.le_of_ble_eq_true rfl) (Nat.le_of_ble_eq_true rfl) ?_
      exact W.zret (v := 1) hx hb hr rfl (fun t ht9 hW9 => ⟨⟨1, (), rfl, (Or.inr ⟨rfl, ⟨c_1, c_2⟩⟩), trivial⟩, hS.F ht9⟩) hS.2.2 dX15_isBetween_15 hlocks
def stpm (c0 : Int32) (c1 : Int32) (p0 : Int32) : Int32 := ((p0 <<< (1 &&& 31)) ||| ((zBits (p0 &&& c1)) &&& 1)) &&& (((1 : Int32) <<< (c0 &&& 31)) - 1)
set_option maxHeartbeats 4000000 in
set_option maxRecDepth 100000 in
theorem k_X15_step (l : Launch) (D : va_G) (g : Nat → ClassId) (z0 sz : Nat) (a : Nat → Nat) (c0 : Int32) (c1 : Int32) (p0 : Int32) : Met l yX15_step (.code yX15_step cX15_step 2 (some .int) :: TG) (rmk 1 0 0 20) (va_Pc [.ref (a 200), .int p0] (PP D g z0 sz [((a 200), .inr (21, [.int 0, .ref (a 201), .ref (a 202), .ref (a 203), .ref (a 204), .ref (a 205), .ref (a 206), .int 0, .int 0, .int 0, .int 0, .ref (a 208), .ref (a 209), .ref (a 210), .ref (a 211), .ref (a 212), .int c0, .int c1, .int (-1), .int 0, .ref (g 200), .ref (a 213), .int 0, .int 97, .ref (a 214), .ref (a 215), .ref (a 207), .null, .int 0]))])) (va_Qi (fun (r : Int32) (u : Unit) => (r = stpm c0 c1 p0) ∧ True) (fun (_ : Unit) (_ : State) => True) (va_A [] sz)) 0 0 (va_A [] sz) := by
  refine met0 (cc := cX15_step) (n := 2) (by decide) (Nat.le_of_ble_eq_true rfl) ?_
  intro p e s m args below meth c hx hb hr hml hown ht hlocks hnm hP0 hD0 hK hZ hsz hz ls hl
  subst hsz
  have hA : ∀ q : Nat, s.heap.size ≤ q → va_A [] s.heap.size q := Anw
  have hAz : ∀ q, va_A [] s.heap.size q → z0 ≤ q := A0z hz
  have hS : va_S (va_A [] s.heap.size) s.heap s.heap [] := va_S.rf
  have hl : lv_has ls 2 [(0, .ref (a 200)), (1, .int p0)] := hl
  refine lv_iload_n hx hb dX15_step_0 rfl (lv_at hl 1 rfl) ?_
  refine lv_iconst (v := 1) hx hb dX15_step_1 (by decide) ?_
  refine lv_ishl hx hb dX15_step_2 ?_
  refine lv_iload_n hx hb dX15_step_3 rfl (lv_at hl 1 rfl) ?_
  refine lv_aload_n hx hb dX15_step_4 rfl (lv_at hl 0 rfl) ?_
  refine va_get (D := D) (ci := 21) (v := .int c1) (C := RX15) (T := TX15) (N := 29) hx hb ht in_X15 hown hK.1 (ro0 hP0 hS) 0 rfl rfl 17 (by decide) (ht _ w_1255) (fun _ h9 => h9) rfl dX15_step_5 ?_
  refine lv_iand hx hb dX15_step_8 ?_
  have hPc : va_P D vwCl [] _ := (ro0 hP0 hS).sub (ws' := []) [] rfl
  have hDc : va_D (fun q => z0 ≤ q) [] := hD0.pick (ws' := []) [] (by decide) rfl
  have hFc := AnA (ws := []) hS.1
  refine va_calli (va_runS (As := [.int (p0 &&& c1)]) (rest := [.int (p0 <<< (1 &&& 31))]) ⟨hx, hb, hml, hown, ht⟩ (k_J6_bitCount_0f7a4_v1 l D g z0 _ a (p0 &&& c1)) (va_cwS 1 ht (gS w_1256 w_279 w_280 w_278) rfl rfl rfl (by decide +kernel) (le2 rfl rfl)) ⟨PP.blind, PP.mk' hK hZ hz hAz hS hPc hDc⟩ rfl rfl hl.1 rfl (lv_room (Nat.le_of_ble_eq_true rfl)) dX15_step_9 (le2 rfl rfl)) hS (fun q _ h => hFc q h) hFc (fun r u t H locs ht1 hvm hw hB hz1 hk1 hS => ?_)
  obtain ⟨rfl, hw⟩ := hw
  refine lv_iconst (v := 1) hx hb dX15_step_12 (by decide) ?_
  refine lv_iand hx hb dX15_step_13 ?_
  refine lv_ior hx hb dX15_step_14 ?_
  refine lv_iconst (v := 1) hx hb dX15_step_15 (by decide) ?_
  refine lv_aload_n hx hb dX15_step_16 rfl (lv_at hl 0 rfl) ?_
  refine va_get (D := D) (ci := 21) (v := .int c0) (C := RX15) (T := TX15) (N := 29) hx hb ht in_X15 hown hK.1 (ro0 hP0 hS) 0 rfl rfl 16 (by decide) (ht _ w_1254) (fun _ h9 => h9) rfl dX15_step_17 ?_
  refine lv_ishl hx hb dX15_step_20 ?_
  refine lv_iconst (v := 1) hx hb dX15_step_21 (by decide) ?_
  refine lv_isub hx hb dX15_step_22 ?_
  refine lv_iand hx hb dX15_step_23 ?_
  refine W.widen (k := 0) (n := 0) (Nat.le_of_ble_eq_true rfl) (Nat.le_of_ble_eq_true rfl) ?_
  exact W.iret (v := (((p0 <<< (1 &&& 31)) ||| ((zBits (p0 &&& c1)) &&& 1)) &&& (((1 : Int32) <<< (c0 &&& 31)) - 1))) hx hb hr (fun t ht9 hW9 => ⟨⟨((p0 <<< (1 &&& 31)) ||| ((zBits (p0 &&& c1)) &&& 1)) &&& (((1 : Int32) <<< (c0 &&& 31)) - 1), (), rfl, ⟨rfl, trivial⟩, trivial⟩, hS.F ht9⟩) hS.2.2 dX15_step_24 hlocks
theorem ring_endM {b : Int32} {i : Nat} (h0 : ¬ b < 2) (h1 : ¬ (16 : Int32) < b) (hi : i = rM b + 2) : 1 <<< (b &&& 31) < nI i := by
  obtain ⟨a1, a2, a3, -⟩ := r_all h0 h1
  rw [a2, hi]
  exact nI_lt (by omega) (by omega)
theorem ring_inM {b : Int32} {i : Nat} (h0 : ¬ b < 2) (h1 : ¬ (16 : Int32) < b) (hi : i < rM b + 2) : ¬ 1 <<< (b &&& 31) < nI i := by
  obtain ⟨a1, a2, a3, -⟩ := r_all h0 h1
  rw [a2]
  exact nI_nlt (by omega) (by omega)
theorem ring_mc {b t : Int32} (h0 : ¬ b < 2) (h1 : ¬ (16 : Int32) < b) : oGo (stpm b t) (rM b + 1) 1 1 = oGo (stp b t) (rM b) 1 1 := by
  have e : stpm b t = stp b t := rfl
  rw [e]
  exact (oGo_eq (stp b t) (rM b) (stp_0 b t) (stp_r h0 h1) (r_all h0 h1).2.2.2.1).symm

set_option maxHeartbeats 4000000 in
set_option maxRecDepth 100000 in
theorem k_X15_setRing (l : Launch) (D : va_G) (g : Nat → ClassId) (z0 sz : Nat) (a : Nat → Nat) (p0 : Int32) (p1 : Int32) : Met l yX15_setRing (.code yX15_setRing cX15_setRing 5 (some .int) :: TG) (rmk 2 0 0 41) (va_Pc [.ref (a 200), .int p0, .int p1] (PP D g z0 sz [((a 200), f_m a g)])) (va_Qi (fun (r : Int32) (u : Int32 × Int32 × Int32) => ((r = 0) ∧ (u.1 = 1) ∧ (u.2.1 = 4) ∧ (u.2.2 = 12) ∧ ((p0 < 2) ∨ ((¬ p0 < 2) ∧ ((16 : Int32) < p0)) ∨ ((¬ p0 < 2) ∧ (¬ (16 : Int32) < p0) ∧ (p1 < 1)) ∨ ((¬ p0 < 2) ∧ (¬ (16 : Int32) < p0) ∧ (¬ p1 < 1) ∧ (((1 <<< (p0 &&& 31)) - 1) < p1)))) ∨ ((r = oGo (stp p0 p1) (rM p0) 1 1) ∧ (u.1 = 0) ∧ (u.2.1 = p0) ∧ (u.2.2 = p1) ∧ (((¬ p0 < 2) ∧ (¬ (16 : Int32) < p0) ∧ (¬ p1 < 1) ∧ (¬ ((1 <<< (p0 &&& 31)) - 1) < p1)) ∨ ((¬ p0 < 2) ∧ (¬ (16 : Int32) < p0) ∧ (¬ p1 < 1) ∧ (¬ ((1 <<< (p0 &&& 31)) - 1) < p1))))) (fun (u : Int32 × Int32 × Int32) (t : State) => va_P D vwCl [((a 200), .inr (21, [.int u.1, .ref (a 201), .ref (a 202), .ref (a 203), .ref (a 204), .ref (a 205), .ref (a 206), .int 0, .int 0, .int 0, .int 0, .ref (a 208), .ref (a 209), .ref (a 210), .ref (a 211), .ref (a 212), .int u.2.1, .int u.2.2, .int (-1), .int 0, .ref (g 200), .ref (a 213), .int 0, .int 97, .ref (a 214), .ref (a 215), .ref (a 207), .null, .int 0]))] t.heap ∧ va_D (va_A [((a 200), f_m a g)] sz) [((a 200), .inr (21, [.int u.1, .ref (a 201), .ref (a 202), .ref (a 203), .ref (a 204), .ref (a 205), .ref (a 206), .int 0, .int 0, .int 0, .int 0, .ref (a 208), .ref (a 209), .ref (a 210), .ref (a 211), .ref (a 212), .int u.2.1, .int u.2.2, .int (-1), .int 0, .ref (g 200), .ref (a 213), .int 0, .int 97, .ref (a 214), .ref (a 215), .ref (a 207), .null, .int 0]))]) (va_A [((a 200), f_m a g)] sz)) 0 0 (va_A [((a 200), f_m a g)] sz) := by
  refine met0 (cc := cX15_setRing) (n := 5) (by decide) (Nat.le_of_ble_eq_true rfl) ?_
  intro p e s m args below meth c hx hb hr hml hown ht hlocks hnm hP0 hD0 hK hZ hsz hz ls hl
  subst hsz
  have hA : ∀ q : Nat, s.heap.size ≤ q → va_A [((a 200), f_m a g)] s.heap.size q := Anw
  have hAz : ∀ q, va_A [((a 200), f_m a g)] s.heap.size q → z0 ≤ q := Awz hz hD0
  have hS : va_S (va_A [((a 200), f_m a g)] s.heap.size) s.heap s.heap [] := va_S.rf
  have hD : va_D (va_A [((a 200), f_m a g)] s.heap.size) [((a 200), f_m a g)] := hD0.self
  have hP : va_P D vwCl [((a 200), f_m a g)] s.heap := hP0
  have hl : lv_has ls 5 [(0, .ref (a 200)), (1, .int p0), (2, .int p1)] := hl
  refine lv_aload_n hx hb dX15_setRing_0 rfl (lv_at hl 0 rfl) ?_
  refine lv_iload_n hx hb dX15_setRing_1 rfl (lv_at hl 1 rfl) ?_
  refine lv_iconst (v := 2) hx hb dX15_setRing_2 (by decide) ?_
  refine lv_bipush (v := 16) hx hb dX15_setRing_3 (by decide) ?_
  have hPc : va_P D vwCl [] _ := hP.sub (ws' := []) [] rfl
  have hDc : va_D (fun q => z0 ≤ q) [] := (hD.to hAz).pick (ws' := []) [] (by decide) rfl
  have hFc := AnA (ws := [((a 200), f_m a g)]) hS.1
  refine va_calli (va_runS (As := [.int p0, .int 2, .int 16]) (rest := [.ref (a 200)]) ⟨hx, hb, hml, hown, ht⟩ (k_X15_isBetween_v11 l D g z0 _ a p0) (va_cwS 3 ht (gS w_369 w_371 w_334 w_370) rfl rfl rfl (by decide +kernel) (le2 rfl rfl)) ⟨PP.blind, PP.mk' hK hZ hz hAz hS hPc hDc⟩ rfl rfl hl.1 rfl (lv_room (Nat.le_of_ble_eq_true rfl)) dX15_setRing_5 (le2 rfl rfl)) hS (fun q _ h => hFc q h) hFc (fun r u t H locs ht1 hvm hw hB hz1 hk1 hS => ?_)
  rcases hw with hw | hw
  · obtain ⟨rfl, hw⟩ := hw
    rcases hw with hw | hw
    · have c_1 := hw
      have hP := ro1 hP hk1
      refine lv_if_eq (tgt := 28) hx hb dX15_setRing_8 (by decide) (fun c_2 => ?_) (fun c_2 => ?_)
      · refine lv_iconst (v := 1) hx hb dX15_setRing_28 (by decide) ?_
        have hPc : va_P D vwCl [((a 200), f_m a g)] _ := hP.sub (ws' := [((a 200), f_m a g)]) [0] rfl
        have hDc : va_D (fun q => z0 ≤ q) [((a 200), f_m a g)] := (hD.to hAz).pick (ws' := [((a 200), f_m a g)]) [0] (by decide) rfl
        have hFc := va_free (wc := [((a 200), f_m a g)]) hD hS hA [0] rfl
        refine va_calli (va_runV (As := [.int 1]) (rest := []) ⟨hx, hb, hml, hown, ht⟩ (k_X15_isWrong l D g z0 _ a) (cwV 1 ht (gV w_376 w_378 w_379 w_334 w_377) rfl rfl rfl (by decide +kernel) (le2 rfl rfl)) ⟨PP.blind, va_recv hK.1 hP (ci := 21) (q0 := 0) rfl rfl, PP.mk' hK hZ hz hAz hS hPc hDc⟩ rfl rfl hl.1 rfl (lv_room (Nat.le_of_ble_eq_true rfl)) dX15_setRing_29 (le2 rfl rfl)) hS (fun q _ h => hFc q h) hFc (fun r u t H locs ht1 hvm hw hB hz1 hk1 hS => ?_)
        obtain ⟨rfl, hw⟩ := hw
        obtain ⟨hP1, hD1⟩ := hB
        rw [ht1] at hP1
        obtain ⟨hP, hD⟩ := va_join (wr := []) (w1 := [((a 200), .inr (21, [.int 1, .ref (a 201), .ref (a 202), .ref (a 203), .ref (a 204), .ref (a 205), .ref (a 206), .int 0, .int 0, .int 0, .int 0, .ref (a 208), .ref (a 209), .ref (a 210), .ref (a 211), .ref (a 212), .int 4, .int 12, .int (-1), .int 0, .ref (g 200), .ref (a 213), .int 0, .int 97, .ref (a 214), .ref (a 215), .ref (a 207), .null, .int 0]))]) hP hD [0] [] rfl rfl (by decide) (by decide) hk1 hFc hP1 hD1
        have hP : va_P D vwCl [((a 200), .inr (21, [.int 1, .ref (a 201), .ref (a 202), .ref (a 203), .ref (a 204), .ref (a 205), .ref (a 206), .int 0, .int 0, .int 0, .int 0, .ref (a 208), .ref (a 209), .ref (a 210), .ref (a 211), .ref (a 212), .int 4, .int 12, .int (-1), .int 0, .ref (g 200), .ref (a 213), .int 0, .int 97, .ref (a 214), .ref (a 215), .ref (a 207), .null, .int 0]))] H := hP
        have hD : va_D (va_A [((a 200), f_m a g)] s.heap.size) [((a 200), .inr (21, [.int 1, .ref (a 201), .ref (a 202), .ref (a 203), .ref (a 204), .ref (a 205), .ref (a 206), .int 0, .int 0, .int 0, .int 0, .ref (a 208), .ref (a 209), .ref (a 210), .ref (a 211), .ref (a 212), .int 4, .int 12, .int (-1), .int 0, .ref (g 200), .ref (a 213), .int 0, .int 97, .ref (a 214), .ref (a 215), .ref (a 207), .null, .int 0]))] := hD
        refine lv_if_eq (tgt := 37) hx hb dX15_setRing_32 (by decide) (fun c_3 => ?_) (fun c_3 => ?_)
        · exact absurd c_3 (by decide)
        · refine lv_iconst (v := 0) hx hb dX15_setRing_35 (by decide) ?_
          have hP9 := hP.sub (ws' := [((a 200), .inr (21, [.int 1, .ref (a 201), .ref (a 202), .ref (a 203), .ref (a 204), .ref (a 205), .ref (a 206), .int 0, .int 0, .int 0, .int 0, .ref (a 208), .ref (a 209), .ref (a 210), .ref (a 211), .ref (a 212), .int 4, .int 12, .int (-1), .int 0, .ref (g 200), .ref (a 213), .int 0, .int 97, .ref (a 214), .ref (a 215), .ref (a 207), .null, .int 0]))]) [0] rfl
          have hD9 := hD.sub (ws' := [((a 200), .inr (21, [.int 1, .ref (a 201), .ref (a 202), .ref (a 203), .ref (a 204), .ref (a 205), .ref (a 206), .int 0, .int 0, .int 0, .int 0, .ref (a 208), .ref (a 209), .ref (a 210), .ref (a 211), .ref (a 212), .int 4, .int 12, .int (-1), .int 0, .ref (g 200), .ref (a 213), .int 0, .int 97, .ref (a 214), .ref (a 215), .ref (a 207), .null, .int 0]))]) [0] (by decide) rfl
          refine W.widen (k := 0) (n := 0) (Nat.le_of_ble_eq_true rfl) (Nat.le_of_ble_eq_true rfl) ?_
          exact W.iret (v := 0) hx hb hr (fun t ht9 hW9 => ⟨⟨0, (1, 4, 12), rfl, (Or.inl ⟨rfl, rfl, rfl, rfl, (Or.inl c_1)⟩), ⟨(by rw [ht9]; exact hP9), hD9⟩⟩, hS.F ht9⟩) hS.2.2 dX15_setRing_36 hlocks
      · exact absurd c_2 (by decide)
    · obtain ⟨c_4, c_5⟩ := hw
      have hP := ro1 hP hk1
      refine lv_if_eq (tgt := 28) hx hb dX15_setRing_8 (by decide) (fun c_6 => ?_) (fun c_6 => ?_)
      · refine lv_iconst (v := 1) hx hb dX15_setRing_28 (by decide) ?_
        have hPc : va_P D vwCl [((a 200), f_m a g)] _ := hP.sub (ws' := [((a 200), f_m a g)]) [0] rfl
        have hDc : va_D (fun q => z0 ≤ q) [((a 200), f_m a g)] := (hD.to hAz).pick (ws' := [((a 200), f_m a g)]) [0] (by decide) rfl
        have hFc := va_free (wc := [((a 200), f_m a g)]) hD hS hA [0] rfl
        refine va_calli (va_runV (As := [.int 1]) (rest := []) ⟨hx, hb, hml, hown, ht⟩ (k_X15_isWrong l D g z0 _ a) (cwV 1 ht (gV w_376 w_378 w_379 w_334 w_377) rfl rfl rfl (by decide +kernel) (le2 rfl rfl)) ⟨PP.blind, va_recv hK.1 hP (ci := 21) (q0 := 0) rfl rfl, PP.mk' hK hZ hz hAz hS hPc hDc⟩ rfl rfl hl.1 rfl (lv_room (Nat.le_of_ble_eq_true rfl)) dX15_setRing_29 (le2 rfl rfl)) hS (fun q _ h => hFc q h) hFc (fun r u t H locs ht1 hvm hw hB hz1 hk1 hS => ?_)
        obtain ⟨rfl, hw⟩ := hw
        obtain ⟨hP1, hD1⟩ := hB
        rw [ht1] at hP1
        obtain ⟨hP, hD⟩ := va_join (wr := []) (w1 := [((a 200), .inr (21, [.int 1, .ref (a 201), .ref (a 202), .ref (a 203), .ref (a 204), .ref (a 205), .ref (a 206), .int 0, .int 0, .int 0, .int 0, .ref (a 208), .ref (a 209), .ref (a 210), .ref (a 211), .ref (a 212), .int 4, .int 12, .int (-1), .int 0, .ref (g 200), .ref (a 213), .int 0, .int 97, .ref (a 214), .ref (a 215), .ref (a 207), .null, .int 0]))]) hP hD [0] [] rfl rfl (by decide) (by decide) hk1 hFc hP1 hD1
        have hP : va_P D vwCl [((a 200), .inr (21, [.int 1, .ref (a 201), .ref (a 202), .ref (a 203), .ref (a 204), .ref (a 205), .ref (a 206), .int 0, .int 0, .int 0, .int 0, .ref (a 208), .ref (a 209), .ref (a 210), .ref (a 211), .ref (a 212), .int 4, .int 12, .int (-1), .int 0, .ref (g 200), .ref (a 213), .int 0, .int 97, .ref (a 214), .ref (a 215), .ref (a 207), .null, .int 0]))] H := hP
        have hD : va_D (va_A [((a 200), f_m a g)] s.heap.size) [((a 200), .inr (21, [.int 1, .ref (a 201), .ref (a 202), .ref (a 203), .ref (a 204), .ref (a 205), .ref (a 206), .int 0, .int 0, .int 0, .int 0, .ref (a 208), .ref (a 209), .ref (a 210), .ref (a 211), .ref (a 212), .int 4, .int 12, .int (-1), .int 0, .ref (g 200), .ref (a 213), .int 0, .int 97, .ref (a 214), .ref (a 215), .ref (a 207), .null, .int 0]))] := hD
        refine lv_if_eq (tgt := 37) hx hb dX15_setRing_32 (by decide) (fun c_7 => ?_) (fun c_7 => ?_)
        · exact absurd c_7 (by decide)
        · refine lv_iconst (v := 0) hx hb dX15_setRing_35 (by decide) ?_
          have hP9 := hP.sub (ws' := [((a 200), .inr (21, [.int 1, .ref (a 201), .ref (a 202), .ref (a 203), .ref (a 204), .ref (a 205), .ref (a 206), .int 0, .int 0, .int 0, .int 0, .ref (a 208), .ref (a 209), .ref (a 210), .ref (a 211), .ref (a 212), .int 4, .int 12, .int (-1), .int 0, .ref (g 200), .ref (a 213), .int 0, .int 97, .ref (a 214), .ref (a 215), .ref (a 207), .null, .int 0]))]) [0] rfl
          have hD9 := hD.sub (ws' := [((a 200), .inr (21, [.int 1, .ref (a 201), .ref (a 202), .ref (a 203), .ref (a 204), .ref (a 205), .ref (a 206), .int 0, .int 0, .int 0, .int 0, .ref (a 208), .ref (a 209), .ref (a 210), .ref (a 211), .ref (a 212), .int 4, .int 12, .int (-1), .int 0, .ref (g 200), .ref (a 213), .int 0, .int 97, .ref (a 214), .ref (a 215), .ref (a 207), .null, .int 0]))]) [0] (by decide) rfl
          refine W.widen (k := 0) (n := 0) (Nat.le_of_ble_eq_true rfl) (Nat.le_of_ble_eq_true rfl) ?_
          exact W.iret (v := 0) hx hb hr (fun t ht9 hW9 => ⟨⟨0, (1, 4, 12), rfl, (Or.inl ⟨rfl, rfl, rfl, rfl, (Or.inr (Or.inl ⟨c_4, c_5⟩))⟩), ⟨(by rw [ht9]; exact hP9), hD9⟩⟩, hS.F ht9⟩) hS.2.2 dX15_setRing_36 hlocks
      · exact absurd c_6 (by decide)
  · obtain ⟨rfl, hw⟩ := hw
    obtain ⟨c_8, c_9⟩ := hw
    have hP := ro1 hP hk1
    refine lv_if_eq (tgt := 28) hx hb dX15_setRing_8 (by decide) (fun c_10 => ?_) (fun c_10 => ?_)
    · exact absurd c_10 (by decide)
    · refine lv_iload_n hx hb dX15_setRing_11 rfl (lv_at hl 2 rfl) ?_
      refine lv_iconst (v := 1) hx hb dX15_setRing_12 (by decide) ?_
      refine lv_iconst (v := 1) hx hb dX15_setRing_13 (by decide) ?_
      refine lv_iload_n hx hb dX15_setRing_14 rfl (lv_at hl 1 rfl) ?_
      refine lv_ishl hx hb dX15_setRing_15 ?_
      refine lv_iconst (v := 1) hx hb dX15_setRing_16 (by decide) ?_
      refine lv_isub hx hb dX15_setRing_17 ?_
      have hPc : va_P D vwCl [] _ := hP.sub (ws' := []) [] rfl
      have hDc : va_D (fun q => z0 ≤ q) [] := (hD.to hAz).pick (ws' := []) [] (by decide) rfl
      have hFc := AnA (ws := [((a 200), f_m a g)]) hS.1
      refine va_calli (va_runS (As := [.int p1, .int 1, .int ((1 <<< (p0 &&& 31)) - 1)]) (rest := [.ref (a 200)]) ⟨hx, hb, hml, hown, ht⟩ (k_X15_isBetween_v12 l D g z0 _ a p1 ((1 <<< (p0 &&& 31)) - 1)) (va_cwS 3 ht (gS w_369 w_371 w_334 w_370) rfl rfl rfl (by decide +kernel) (le2 rfl rfl)) ⟨PP.blind, PP.mk' hK hZ hz hAz hS hPc hDc⟩ rfl rfl hl.1 rfl (lv_room (Nat.le_of_ble_eq_true rfl)) dX15_setRing_18 (le2 rfl rfl)) hS (fun q _ h => hFc q h) hFc (fun r u t H locs ht1 hvm hw hB hz1 hk1 hS => ?_)
      rcases hw with hw | hw
      · obtain ⟨rfl, hw⟩ := hw
        rcases hw with hw | hw
        · have c_11 := hw
          have hP := ro1 hP hk1
          refine lv_if_eq (tgt := 28) hx hb dX15_setRing_21 (by decide) (fun c_12 => ?_) (fun c_12 => ?_)
          · refine lv_iconst (v := 1) hx hb dX15_setRing_28 (by decide) ?_
            have hPc : va_P D vwCl [((a 200), f_m a g)] _ := hP.sub (ws' := [((a 200), f_m a g)]) [0] rfl
            have hDc : va_D (fun q => z0 ≤ q) [((a 200), f_m a g)] := (hD.to hAz).pick (ws' := [((a 200), f_m a g)]) [0] (by decide) rfl
            have hFc := va_free (wc := [((a 200), f_m a g)]) hD hS hA [0] rfl
            refine va_calli (va_runV (As := [.int 1]) (rest := []) ⟨hx, hb, hml, hown, ht⟩ (k_X15_isWrong l D g z0 _ a) (cwV 1 ht (gV w_376 w_378 w_379 w_334 w_377) rfl rfl rfl (by decide +kernel) (le2 rfl rfl)) ⟨PP.blind, va_recv hK.1 hP (ci := 21) (q0 := 0) rfl rfl, PP.mk' hK hZ hz hAz hS hPc hDc⟩ rfl rfl hl.1 rfl (lv_room (Nat.le_of_ble_eq_true rfl)) dX15_setRing_29 (le2 rfl rfl)) hS (fun q _ h => hFc q h) hFc (fun r u t H locs ht1 hvm hw hB hz1 hk1 hS => ?_)
            obtain ⟨rfl, hw⟩ := hw
            obtain ⟨hP1, hD1⟩ := hB
            rw [ht1] at hP1
            obtain ⟨hP, hD⟩ := va_join (wr := []) (w1 := [((a 200), .inr (21, [.int 1, .ref (a 201), .ref (a 202), .ref (a 203), .ref (a 204), .ref (a 205), .ref (a 206), .int 0, .int 0, .int 0, .int 0, .ref (a 208), .ref (a 209), .ref (a 210), .ref (a 211), .ref (a 212), .int 4, .int 12, .int (-1), .int 0, .ref (g 200), .ref (a 213), .int 0, .int 97, .ref (a 214), .ref (a 215), .ref (a 207), .null, .int 0]))]) hP hD [0] [] rfl rfl (by decide) (by decide) hk1 hFc hP1 hD1
            have hP : va_P D vwCl [((a 200), .inr (21, [.int 1, .ref (a 201), .ref (a 202), .ref (a 203), .ref (a 204), .ref (a 205), .ref (a 206), .int 0, .int 0, .int 0, .int 0, .ref (a 208), .ref (a 209), .ref (a 210), .ref (a 211), .ref (a 212), .int 4, .int 12, .int (-1), .int 0, .ref (g 200), .ref (a 213), .int 0, .int 97, .ref (a 214), .ref (a 215), .ref (a 207), .null, .int 0]))] H := hP
            have hD : va_D (va_A [((a 200), f_m a g)] s.heap.size) [((a 200), .inr (21, [.int 1, .ref (a 201), .ref (a 202), .ref (a 203), .ref (a 204), .ref (a 205), .ref (a 206), .int 0, .int 0, .int 0, .int 0, .ref (a 208), .ref (a 209), .ref (a 210), .ref (a 211), .ref (a 212), .int 4, .int 12, .int (-1), .int 0, .ref (g 200), .ref (a 213), .int 0, .int 97, .ref (a 214), .ref (a 215), .ref (a 207), .null, .int 0]))] := hD
            refine lv_if_eq (tgt := 37) hx hb dX15_setRing_32 (by decide) (fun c_13 => ?_) (fun c_13 => ?_)
            · exact absurd c_13 (by decide)
            · refine lv_iconst (v := 0) hx hb dX15_setRing_35 (by decide) ?_
              have hP9 := hP.sub (ws' := [((a 200), .inr (21, [.int 1, .ref (a 201), .ref (a 202), .ref (a 203), .ref (a 204), .ref (a 205), .ref (a 206), .int 0, .int 0, .int 0, .int 0, .ref (a 208), .ref (a 209), .ref (a 210), .ref (a 211), .ref (a 212), .int 4, .int 12, .int (-1), .int 0, .ref (g 200), .ref (a 213), .int 0, .int 97, .ref (a 214), .ref (a 215), .ref (a 207), .null, .int 0]))]) [0] rfl
              have hD9 := hD.sub (ws' := [((a 200), .inr (21, [.int 1, .ref (a 201), .ref (a 202), .ref (a 203), .ref (a 204), .ref (a 205), .ref (a 206), .int 0, .int 0, .int 0, .int 0, .ref (a 208), .ref (a 209), .ref (a 210), .ref (a 211), .ref (a 212), .int 4, .int 12, .int (-1), .int 0, .ref (g 200), .ref (a 213), .int 0, .int 97, .ref (a 214), .ref (a 215), .ref (a 207), .null, .int 0]))]) [0] (by decide) rfl
              refine W.widen (k := 0) (n := 0) (Nat.le_of_ble_eq_true rfl) (Nat.le_of_ble_eq_true rfl) ?_
              exact W.iret (v := 0) hx hb hr (fun t ht9 hW9 => ⟨⟨0, (1, 4, 12), rfl, (Or.inl ⟨rfl, rfl, rfl, rfl, (Or.inr (Or.inr (Or.inl ⟨c_8, c_9, c_11⟩)))⟩), ⟨(by rw [ht9]; exact hP9), hD9⟩⟩, hS.F ht9⟩) hS.2.2 dX15_setRing_36 hlocks
          · exact absurd c_12 (by decide)
        · obtain ⟨c_14, c_15⟩ := hw
          have hP := ro1 hP hk1
          refine lv_if_eq (tgt := 28) hx hb dX15_setRing_21 (by decide) (fun c_16 => ?_) (fun c_16 => ?_)
          · refine lv_iconst (v := 1) hx hb dX15_setRing_28 (by decide) ?_
            have hPc : va_P D vwCl [((a 200), f_m a g)] _ := hP.sub (ws' := [((a 200), f_m a g)]) [0] rfl
            have hDc : va_D (fun q => z0 ≤ q) [((a 200), f_m a g)] := (hD.to hAz).pick (ws' := [((a 200), f_m a g)]) [0] (by decide) rfl
            have hFc := va_free (wc := [((a 200), f_m a g)]) hD hS hA [0] rfl
            refine va_calli (va_runV (As := [.int 1]) (rest := []) ⟨hx, hb, hml, hown, ht⟩ (k_X15_isWrong l D g z0 _ a) (cwV 1 ht (gV w_376 w_378 w_379 w_334 w_377) rfl rfl rfl (by decide +kernel) (le2 rfl rfl)) ⟨PP.blind, va_recv hK.1 hP (ci := 21) (q0 := 0) rfl rfl, PP.mk' hK hZ hz hAz hS hPc hDc⟩ rfl rfl hl.1 rfl (lv_room (Nat.le_of_ble_eq_true rfl)) dX15_setRing_29 (le2 rfl rfl)) hS (fun q _ h => hFc q h) hFc (fun r u t H locs ht1 hvm hw hB hz1 hk1 hS => ?_)
            obtain ⟨rfl, hw⟩ := hw
            obtain ⟨hP1, hD1⟩ := hB
            rw [ht1] at hP1
            obtain ⟨hP, hD⟩ := va_join (wr := []) (w1 := [((a 200), .inr (21, [.int 1, .ref (a 201), .ref (a 202), .ref (a 203), .ref (a 204), .ref (a 205), .ref (a 206), .int 0, .int 0, .int 0, .int 0, .ref (a 208), .ref (a 209), .ref (a 210), .ref (a 211), .ref (a 212), .int 4, .int 12, .int (-1), .int 0, .ref (g 200), .ref (a 213), .int 0, .int 97, .ref (a 214), .ref (a 215), .ref (a 207), .null, .int 0]))]) hP hD [0] [] rfl rfl (by decide) (by decide) hk1 hFc hP1 hD1
            have hP : va_P D vwCl [((a 200), .inr (21, [.int 1, .ref (a 201), .ref (a 202), .ref (a 203), .ref (a 204), .ref (a 205), .ref (a 206), .int 0, .int 0, .int 0, .int 0, .ref (a 208), .ref (a 209), .ref (a 210), .ref (a 211), .ref (a 212), .int 4, .int 12, .int (-1), .int 0, .ref (g 200), .ref (a 213), .int 0, .int 97, .ref (a 214), .ref (a 215), .ref (a 207), .null, .int 0]))] H := hP
            have hD : va_D (va_A [((a 200), f_m a g)] s.heap.size) [((a 200), .inr (21, [.int 1, .ref (a 201), .ref (a 202), .ref (a 203), .ref (a 204), .ref (a 205), .ref (a 206), .int 0, .int 0, .int 0, .int 0, .ref (a 208), .ref (a 209), .ref (a 210), .ref (a 211), .ref (a 212), .int 4, .int 12, .int (-1), .int 0, .ref (g 200), .ref (a 213), .int 0, .int 97, .ref (a 214), .ref (a 215), .ref (a 207), .null, .int 0]))] := hD
            refine lv_if_eq (tgt := 37) hx hb dX15_setRing_32 (by decide) (fun c_17 => ?_) (fun c_17 => ?_)
            · exact absurd c_17 (by decide)
            · refine lv_iconst (v := 0) hx hb dX15_setRing_35 (by decide) ?_
              have hP9 := hP.sub (ws' := [((a 200), .inr (21, [.int 1, .ref (a 201), .ref (a 202), .ref (a 203), .ref (a 204), .ref (a 205), .ref (a 206), .int 0, .int 0, .int 0, .int 0, .ref (a 208), .ref (a 209), .ref (a 210), .ref (a 211), .ref (a 212), .int 4, .int 12, .int (-1), .int 0, .ref (g 200), .ref (a 213), .int 0, .int 97, .ref (a 214), .ref (a 215), .ref (a 207), .null, .int 0]))]) [0] rfl
              have hD9 := hD.sub (ws' := [((a 200), .inr (21, [.int 1, .ref (a 201), .ref (a 202), .ref (a 203), .ref (a 204), .ref (a 205), .ref (a 206), .int 0, .int 0, .int 0, .int 0, .ref (a 208), .ref (a 209), .ref (a 210), .ref (a 211), .ref (a 212), .int 4, .int 12, .int (-1), .int 0, .ref (g 200), .ref (a 213), .int 0, .int 97, .ref (a 214), .ref (a 215), .ref (a 207), .null, .int 0]))]) [0] (by decide) rfl
              refine W.widen (k := 0) (n := 0) (Nat.le_of_ble_eq_true rfl) (Nat.le_of_ble_eq_true rfl) ?_
              exact W.iret (v := 0) hx hb hr (fun t ht9 hW9 => ⟨⟨0, (1, 4, 12), rfl, (Or.inl ⟨rfl, rfl, rfl, rfl, (Or.inr (Or.inr (Or.inr ⟨c_8, c_9, c_14, c_15⟩)))⟩), ⟨(by rw [ht9]; exact hP9), hD9⟩⟩, hS.F ht9⟩) hS.2.2 dX15_setRing_36 hlocks
          · exact absurd c_16 (by decide)
      · obtain ⟨rfl, hw⟩ := hw
        obtain ⟨c_18, c_19⟩ := hw
        have hP := ro1 hP hk1
        refine lv_if_eq (tgt := 28) hx hb dX15_setRing_21 (by decide) (fun c_20 => ?_) (fun c_20 => ?_)
        · exact absurd c_20 (by decide)
        · refine lv_iconst (v := 0) hx hb dX15_setRing_24 (by decide) ?_
          refine lv_goto (tgt := 29) hx hb dX15_setRing_25 (by decide) ?_
          have hPc : va_P D vwCl [((a 200), f_m a g)] _ := hP.sub (ws' := [((a 200), f_m a g)]) [0] rfl
          have hDc : va_D (fun q => z0 ≤ q) [((a 200), f_m a g)] := (hD.to hAz).pick (ws' := [((a 200), f_m a g)]) [0] (by decide) rfl
          have hFc := va_free (wc := [((a 200), f_m a g)]) hD hS hA [0] rfl
          refine va_calli (va_runV (As := [.int 0]) (rest := []) ⟨hx, hb, hml, hown, ht⟩ (k_X15_isWrong_v1 l D g z0 _ a) (cwV 1 ht (gV w_376 w_378 w_379 w_334 w_377) rfl rfl rfl (by decide +kernel) (le2 rfl rfl)) ⟨PP.blind, va_recv hK.1 hP (ci := 21) (q0 := 0) rfl rfl, PP.mk' hK hZ hz hAz hS hPc hDc⟩ rfl rfl hl.1 rfl (lv_room (Nat.le_of_ble_eq_true rfl)) dX15_setRing_29 (le2 rfl rfl)) hS (fun q _ h => hFc q h) hFc (fun r u t H locs ht1 hvm hw hB hz1 hk1 hS => ?_)
          obtain ⟨rfl, hw⟩ := hw
          obtain ⟨hP1, hD1⟩ := hB
          rw [ht1] at hP1
          obtain ⟨hP, hD⟩ := va_join (wr := []) (w1 := [((a 200), f_m a g)]) hP hD [0] [] rfl rfl (by decide) (by decide) hk1 hFc hP1 hD1
          have hP : va_P D vwCl [((a 200), f_m a g)] H := hP
          have hD : va_D (va_A [((a 200), f_m a g)] s.heap.size) [((a 200), f_m a g)] := hD
          refine lv_if_eq (tgt := 37) hx hb dX15_setRing_32 (by decide) (fun c_21 => ?_) (fun c_21 => ?_)
          · refine lv_aload_n hx hb dX15_setRing_37 rfl (lv_at hl 0 rfl) ?_
            refine lv_iload_n hx hb dX15_setRing_38 rfl (lv_at hl 1 rfl) ?_
            refine va_put (D := D) (ci := 21) (v := .int p0) (ty := .int) (C := RX15) (T := TX15) (N := 29) hx hb ht in_X15 tyX15 tyX15_ok nmX15 hown hK.1 hP hD hS 0 rfl rfl 16 (by decide) (ht _ w_1254) (fun _ h9 => h9) rfl (by decide +kernel) rfl rfl (Nat.le_of_ble_eq_true rfl) dX15_setRing_39 (fun H locs hP hD hS => ?_)
            have hP : va_P D vwCl [((a 200), .inr (21, [.int 0, .ref (a 201), .ref (a 202), .ref (a 203), .ref (a 204), .ref (a 205), .ref (a 206), .int 0, .int 0, .int 0, .int 0, .ref (a 208), .ref (a 209), .ref (a 210), .ref (a 211), .ref (a 212), .int p0, .int 12, .int (-1), .int 0, .ref (g 200), .ref (a 213), .int 0, .int 97, .ref (a 214), .ref (a 215), .ref (a 207), .null, .int 0]))] H := hP
            have hD : va_D (va_A [((a 200), f_m a g)] s.heap.size) [((a 200), .inr (21, [.int 0, .ref (a 201), .ref (a 202), .ref (a 203), .ref (a 204), .ref (a 205), .ref (a 206), .int 0, .int 0, .int 0, .int 0, .ref (a 208), .ref (a 209), .ref (a 210), .ref (a 211), .ref (a 212), .int p0, .int 12, .int (-1), .int 0, .ref (g 200), .ref (a 213), .int 0, .int 97, .ref (a 214), .ref (a 215), .ref (a 207), .null, .int 0]))] := hD
            refine lv_aload_n hx hb dX15_setRing_42 rfl (lv_at hl 0 rfl) ?_
            refine lv_iload_n hx hb dX15_setRing_43 rfl (lv_at hl 2 rfl) ?_
            refine va_put (D := D) (ci := 21) (v := .int p1) (ty := .int) (C := RX15) (T := TX15) (N := 29) hx hb ht in_X15 tyX15 tyX15_ok nmX15 hown hK.1 hP hD hS 0 rfl rfl 17 (by decide) (ht _ w_1255) (fun _ h9 => h9) rfl (by decide +kernel) rfl rfl (Nat.le_of_ble_eq_true rfl) dX15_setRing_44 (fun H locs hP hD hS => ?_)
            have hP : va_P D vwCl [((a 200), .inr (21, [.int 0, .ref (a 201), .ref (a 202), .ref (a 203), .ref (a 204), .ref (a 205), .ref (a 206), .int 0, .int 0, .int 0, .int 0, .ref (a 208), .ref (a 209), .ref (a 210), .ref (a 211), .ref (a 212), .int p0, .int p1, .int (-1), .int 0, .ref (g 200), .ref (a 213), .int 0, .int 97, .ref (a 214), .ref (a 215), .ref (a 207), .null, .int 0]))] H := hP
            have hD : va_D (va_A [((a 200), f_m a g)] s.heap.size) [((a 200), .inr (21, [.int 0, .ref (a 201), .ref (a 202), .ref (a 203), .ref (a 204), .ref (a 205), .ref (a 206), .int 0, .int 0, .int 0, .int 0, .ref (a 208), .ref (a 209), .ref (a 210), .ref (a 211), .ref (a 212), .int p0, .int p1, .int (-1), .int 0, .ref (g 200), .ref (a 213), .int 0, .int 97, .ref (a 214), .ref (a 215), .ref (a 207), .null, .int 0]))] := hD
            refine lv_iconst (v := 1) hx hb dX15_setRing_47 (by decide) ?_
            refine lv_istore_n (lv' := [(3, .int 1), (0, .ref (a 200)), (1, .int p0), (2, .int p1)]) hx hb dX15_setRing_48 rfl hl (by decide) rfl (fun ls hl => ?_)
            refine lv_iconst (v := 1) hx hb dX15_setRing_49 (by decide) ?_
            refine lv_istore (lv' := [(4, .int 1), (3, .int 1), (0, .ref (a 200)), (1, .int p0), (2, .int p1)]) hx hb dX15_setRing_50 hl (by decide) rfl (fun ls hl => ?_)
            have loop : ∀ (k i : Nat), rM p0 + 2 = i + k → ∀ (w : Int32) (hw9 : oGo (stpm p0 p1) k i w = oGo (stpm p0 p1) (rM p0 + 1) 1 1) (H : Heap) (locs : List Loc), va_P D vwCl [((a 200), .inr (21, [.int 0, .ref (a 201), .ref (a 202), .ref (a 203), .ref (a 204), .ref (a 205), .ref (a 206), .int 0, .int 0, .int 0, .int 0, .ref (a 208), .ref (a 209), .ref (a 210), .ref (a 211), .ref (a 212), .int p0, .int p1, .int (-1), .int 0, .ref (g 200), .ref (a 213), .int 0, .int 97, .ref (a 214), .ref (a 215), .ref (a 207), .null, .int 0]))] H → va_D (va_A [((a 200), f_m a g)] s.heap.size) [((a 200), .inr (21, [.int 0, .ref (a 201), .ref (a 202), .ref (a 203), .ref (a 204), .ref (a 205), .ref (a 206), .int 0, .int 0, .int 0, .int 0, .ref (a 208), .ref (a 209), .ref (a 210), .ref (a 211), .ref (a 212), .int p0, .int p1, .int (-1), .int 0, .ref (g 200), .ref (a 213), .int 0, .int 97, .ref (a 214), .ref (a 215), .ref (a 207), .null, .int 0]))] → va_S (va_A [((a 200), f_m a g)] s.heap.size) s.heap H locs → ∀ (ls : Array Slot), lv_has ls 5 [(4, .int (nI i)), (3, .int w), (0, .ref (a 200)), (1, .int p0), (2, .int p1)] → W p l e (rmk 2 0 0 41) s m args below meth c H locs 0 0 (MQ below (va_Qi (fun (r : Int32) (u : Int32 × Int32 × Int32) => ((r = 0) ∧ (u.1 = 1) ∧ (u.2.1 = 4) ∧ (u.2.2 = 12) ∧ ((p0 < 2) ∨ ((¬ p0 < 2) ∧ ((16 : Int32) < p0)) ∨ ((¬ p0 < 2) ∧ (¬ (16 : Int32) < p0) ∧ (p1 < 1)) ∨ ((¬ p0 < 2) ∧ (¬ (16 : Int32) < p0) ∧ (¬ p1 < 1) ∧ (((1 <<< (p0 &&& 31)) - 1) < p1)))) ∨ ((r = oGo (stp p0 p1) (rM p0) 1 1) ∧ (u.1 = 0) ∧ (u.2.1 = p0) ∧ (u.2.2 = p1) ∧ (((¬ p0 < 2) ∧ (¬ (16 : Int32) < p0) ∧ (¬ p1 < 1) ∧ (¬ ((1 <<< (p0 &&& 31)) - 1) < p1)) ∨ ((¬ p0 < 2) ∧ (¬ (16 : Int32) < p0) ∧ (¬ p1 < 1) ∧ (¬ ((1 <<< (p0 &&& 31)) - 1) < p1))))) (fun (u : Int32 × Int32 × Int32) (t : State) => va_P D vwCl [((a 200), .inr (21, [.int u.1, .ref (a 201), .ref (a 202), .ref (a 203), .ref (a 204), .ref (a 205), .ref (a 206), .int 0, .int 0, .int 0, .int 0, .ref (a 208), .ref (a 209), .ref (a 210), .ref (a 211), .ref (a 212), .int u.2.1, .int u.2.2, .int (-1), .int 0, .ref (g 200), .ref (a 213), .int 0, .int 97, .ref (a 214), .ref (a 215), .ref (a 207), .null, .int 0]))] t.heap ∧ va_D (va_A [((a 200), f_m a g)] s.heap.size) [((a 200), .inr (21, [.int u.1, .ref (a 201), .ref (a 202), .ref (a 203), .ref (a 204), .ref (a 205), .ref (a 206), .int 0, .int 0, .int 0, .int 0, .ref (a 208), .ref (a 209), .ref (a 210), .ref (a 211), .ref (a 212), .int u.2.1, .int u.2.2, .int (-1), .int 0, .ref (g 200), .ref (a 213), .int 0, .int 97, .ref (a 214), .ref (a 215), .ref (a 207), .null, .int 0]))]) (va_A [((a 200), f_m a g)] s.heap.size)) args s 0 0 (va_A [((a 200), f_m a g)] s.heap.size)) (F0 m 52 ls []) := by
              intro k
              induction k with
              | zero =>
                intro i hi w hw9 H locs hP hD hS ls hl
                have hi0 : i = rM p0 + 2 := by omega
                refine lv_iload hx hb dX15_setRing_52 (lv_at hl 0 rfl) ?_
                refine lv_iconst (v := 1) hx hb dX15_setRing_54 (by decide) ?_
                refine lv_iload_n hx hb dX15_setRing_55 rfl (lv_at hl 3 rfl) ?_
                refine lv_ishl hx hb dX15_setRing_56 ?_
                refine lv_icmp_gt (tgt := 80) hx hb dX15_setRing_57 (by decide) (fun c_22 => ?_) (fun c_22 => absurd (ring_endM c_8 c_9 hi0) c_22)
                refine lv_iconst (v := 0) hx hb dX15_setRing_80 (by decide) ?_
                have hP9 := hP.sub (ws' := [((a 200), .inr (21, [.int 0, .ref (a 201), .ref (a 202), .ref (a 203), .ref (a 204), .ref (a 205), .ref (a 206), .int 0, .int 0, .int 0, .int 0, .ref (a 208), .ref (a 209), .ref (a 210), .ref (a 211), .ref (a 212), .int p0, .int p1, .int (-1), .int 0, .ref (g 200), .ref (a 213), .int 0, .int 97, .ref (a 214), .ref (a 215), .ref (a 207), .null, .int 0]))]) [0] rfl
                have hD9 := hD.sub (ws' := [((a 200), .inr (21, [.int 0, .ref (a 201), .ref (a 202), .ref (a 203), .ref (a 204), .ref (a 205), .ref (a 206), .int 0, .int 0, .int 0, .int 0, .ref (a 208), .ref (a 209), .ref (a 210), .ref (a 211), .ref (a 212), .int p0, .int p1, .int (-1), .int 0, .ref (g 200), .ref (a 213), .int 0, .int 97, .ref (a 214), .ref (a 215), .ref (a 207), .null, .int 0]))]) [0] (by decide) rfl
                refine W.widen (k := 0) (n := 0) (Nat.le_of_ble_eq_true rfl) (Nat.le_of_ble_eq_true rfl) ?_
                exact W.iret (v := 0) hx hb hr (fun t ht9 hW9 => ⟨⟨0, (0, p0, p1), rfl, (Or.inr ⟨(hw9.trans (ring_mc c_8 c_9)), rfl, rfl, rfl, (Or.inl ⟨c_8, c_9, c_18, c_19⟩)⟩), ⟨(by rw [ht9]; exact hP9), hD9⟩⟩, hS.F ht9⟩) hS.2.2 dX15_setRing_81 hlocks
              | succ k ih =>
                intro i hi w hw9 H locs hP hD hS ls hl
                have hlt : i < rM p0 + 2 := by omega
                refine lv_iload hx hb dX15_setRing_52 (lv_at hl 0 rfl) ?_
                refine lv_iconst (v := 1) hx hb dX15_setRing_54 (by decide) ?_
                refine lv_iload_n hx hb dX15_setRing_55 rfl (lv_at hl 3 rfl) ?_
                refine lv_ishl hx hb dX15_setRing_56 ?_
                refine lv_icmp_gt (tgt := 80) hx hb dX15_setRing_57 (by decide) (fun c_23 => absurd c_23 (ring_inM c_8 c_9 hlt)) (fun c_23 => ?_)
                refine lv_aload_n hx hb dX15_setRing_60 rfl (lv_at hl 2 rfl) ?_
                refine lv_iload_n hx hb dX15_setRing_61 rfl (lv_at hl 1 rfl) ?_
                have hPc : va_P D vwCl [((a 200), .inr (21, [.int 0, .ref (a 201), .ref (a 202), .ref (a 203), .ref (a 204), .ref (a 205), .ref (a 206), .int 0, .int 0, .int 0, .int 0, .ref (a 208), .ref (a 209), .ref (a 210), .ref (a 211), .ref (a 212), .int p0, .int p1, .int (-1), .int 0, .ref (g 200), .ref (a 213), .int 0, .int 97, .ref (a 214), .ref (a 215), .ref (a 207), .null, .int 0]))] _ := hP.sub (ws' := [((a 200), .inr (21, [.int 0, .ref (a 201), .ref (a 202), .ref (a 203), .ref (a 204), .ref (a 205), .ref (a 206), .int 0, .int 0, .int 0, .int 0, .ref (a 208), .ref (a 209), .ref (a 210), .ref (a 211), .ref (a 212), .int p0, .int p1, .int (-1), .int 0, .ref (g 200), .ref (a 213), .int 0, .int 97, .ref (a 214), .ref (a 215), .ref (a 207), .null, .int 0]))]) [0] rfl
                have hDc : va_D (fun q => z0 ≤ q) [((a 200), .inr (21, [.int 0, .ref (a 201), .ref (a 202), .ref (a 203), .ref (a 204), .ref (a 205), .ref (a 206), .int 0, .int 0, .int 0, .int 0, .ref (a 208), .ref (a 209), .ref (a 210), .ref (a 211), .ref (a 212), .int p0, .int p1, .int (-1), .int 0, .ref (g 200), .ref (a 213), .int 0, .int 97, .ref (a 214), .ref (a 215), .ref (a 207), .null, .int 0]))] := (hD.to hAz).pick (ws' := [((a 200), .inr (21, [.int 0, .ref (a 201), .ref (a 202), .ref (a 203), .ref (a 204), .ref (a 205), .ref (a 206), .int 0, .int 0, .int 0, .int 0, .ref (a 208), .ref (a 209), .ref (a 210), .ref (a 211), .ref (a 212), .int p0, .int p1, .int (-1), .int 0, .ref (g 200), .ref (a 213), .int 0, .int 97, .ref (a 214), .ref (a 215), .ref (a 207), .null, .int 0]))]) [0] (by decide) rfl
                have hFc := AnA (ws := [((a 200), f_m a g)]) hS.1
                refine va_calli (va_runV (As := [.int w]) (rest := []) ⟨hx, hb, hml, hown, ht⟩ (k_X15_step l D g z0 _ a p0 p1 w) (cwV 1 ht (gV w_1257 w_1259 w_1260 w_334 w_1258) rfl rfl rfl (by decide +kernel) (le2 rfl rfl)) ⟨PP.blind, va_recv hK.1 hP (ci := 21) (q0 := 0) rfl rfl, PP.mk' hK hZ hz hAz hS hPc hDc⟩ rfl rfl hl.1 rfl (lv_room (Nat.le_of_ble_eq_true rfl)) dX15_setRing_62 (le2 rfl rfl)) hS (fun q _ h => hFc q h) hFc (fun r u t H locs ht1 hvm hw hB hz1 hk1 hS => ?_)
                obtain ⟨rfl, hw⟩ := hw
                have hP := ro1 hP hk1
                refine lv_istore_n (lv' := [(3, .int (stpm p0 p1 w)), (4, .int (nI i)), (0, .ref (a 200)), (1, .int p0), (2, .int p1)]) hx hb dX15_setRing_65 rfl hl (by decide) rfl (fun ls hl => ?_)
                refine lv_iload_n hx hb dX15_setRing_66 rfl (lv_at hl 0 rfl) ?_
                refine lv_iconst (v := 1) hx hb dX15_setRing_67 (by decide) ?_
                refine lv_icmp_ne (tgt := 74) hx hb dX15_setRing_68 (by decide) (fun c_24 => ?_) (fun c_24 => ?_)
                · refine lv_iinc (v := nI (i + 1)) (lv' := [(4, .int (nI (i + 1))), (3, .int (stpm p0 p1 w)), (0, .ref (a 200)), (1, .int p0), (2, .int p1)]) hx hb dX15_setRing_74 hl (k := 1) rfl (nI_1 i) (by decide) rfl (fun ls hl => ?_)
                  refine lv_goto (tgt := 52) hx hb dX15_setRing_77 (by decide) ?_
                  exact ih (i + 1) (by omega) (stpm p0 p1 w) (oGo_n c_24 hw9) H locs hP hD hS ls (lv_sub hl [0, 1, 2, 3, 4] rfl)
                · refine lv_iload hx hb dX15_setRing_71 (lv_at hl 1 rfl) ?_
                  have hP9 := hP.sub (ws' := [((a 200), .inr (21, [.int 0, .ref (a 201), .ref (a 202), .ref (a 203), .ref (a 204), .ref (a 205), .ref (a 206), .int 0, .int 0, .int 0, .int 0, .ref (a 208), .ref (a 209), .ref (a 210), .ref (a 211), .ref (a 212), .int p0, .int p1, .int (-1), .int 0, .ref (g 200), .ref (a 213), .int 0, .int 97, .ref (a 214), .ref (a 215), .ref (a 207), .null, .int 0]))]) [0] rfl
                  have hD9 := hD.sub (ws' := [((a 200), .inr (21, [.int 0, .ref (a 201), .ref (a 202), .ref (a 203), .ref (a 204), .ref (a 205), .ref (a 206), .int 0, .int 0, .int 0, .int 0, .ref (a 208), .ref (a 209), .ref (a 210), .ref (a 211), .ref (a 212), .int p0, .int p1, .int (-1), .int 0, .ref (g 200), .ref (a 213), .int 0, .int 97, .ref (a 214), .ref (a 215), .ref (a 207), .null, .int 0]))]) [0] (by decide) rfl
                  refine W.widen (k := 0) (n := 0) (Nat.le_of_ble_eq_true rfl) (Nat.le_of_ble_eq_true rfl) ?_
                  exact W.iret (v := (nI i)) hx hb hr (fun t ht9 hW9 => ⟨⟨nI i, (0, p0, p1), rfl, (Or.inr ⟨((oGo_y c_24 hw9).trans (ring_mc c_8 c_9)), rfl, rfl, rfl, (Or.inl ⟨c_8, c_9, c_18, c_19⟩)⟩), ⟨(by rw [ht9]; exact hP9), hD9⟩⟩, hS.F ht9⟩) hS.2.2 dX15_setRing_73 hlocks
            exact loop (rM p0 + 1) 1 (by omega) 1 rfl _ _ hP hD hS ls (lv_sub hl [0, 1, 2, 3, 4] rfl)
          · exact absurd c_21 (by decide)
set_option maxHeartbeats 4000000 in
set_option maxRecDepth 100000 in
theorem k_L_setRing (l : Launch) (hfl : l.stackTraces = false) (D : va_G) (g : Nat → ClassId) (z0 sz : Nat) (a : Nat → Nat) (p0 : Int32) (p1 : Int32) (h0 : Nat) : Met l yL_setRing (.codeWith yL_setRing cL_setRing 5 (some .int) [(0, 10, 13, 24)] :: TG) (rmk 8 2 12 125) (va_Pc [.ref (a 0), .int p0, .int p1, .ref h0] (PP D g z0 sz [(h0, .inl (g 1, 1, .inr (.inl (fun _ => 0)))), ((a 0), f_x a), ((a 7), f_ring a)])) (va_Qi (fun (r : Int32) (u : Int64) => ((r = 1) ∧ (u = 0) ∧ ((p0 < 2) ∨ ((¬ p0 < 2) ∧ (¬ p0 ≤ 16)) ∨ ((¬ p0 < 2) ∧ (p0 ≤ 16) ∧ (p1 < 1)) ∨ ((¬ p0 < 2) ∧ (p0 ≤ 16) ∧ (¬ p1 < 1) ∧ (¬ p1 ≤ ((1 <<< (p0 &&& 31)) - 1))))) ∨ ((r = 0) ∧ (u = (oGo (stp p0 p1) (rM p0) 1 1).toInt64) ∧ ((¬ p0 < 2) ∧ (p0 ≤ 16) ∧ (¬ p1 < 1) ∧ (p1 ≤ ((1 <<< (p0 &&& 31)) - 1))))) (fun (u : Int64) (t : State) => va_P D vwCl [(h0, .inl (g 1, 1, .inr (.inl (fun _ => u))))] t.heap ∧ va_D (va_A [(h0, .inl (g 1, 1, .inr (.inl (fun _ => 0)))), ((a 0), f_x a), ((a 7), f_ring a)] sz) [(h0, .inl (g 1, 1, .inr (.inl (fun _ => u))))]) (va_A [(h0, .inl (g 1, 1, .inr (.inl (fun _ => 0)))), ((a 0), f_x a), ((a 7), f_ring a)] sz)) 2 12 (va_A [(h0, .inl (g 1, 1, .inr (.inl (fun _ => 0)))), ((a 0), f_x a), ((a 7), f_ring a)] sz) := by
  refine metW0 (cc := cL_setRing) (n := 5) (hh := [(0, 10, 13, 24)]) (by decide) (Nat.le_of_ble_eq_true rfl) ?_
  intro p e s m args below meth c hx hb hr hml htab hown ht hlocks hnm hP0 hD0 hK hZ hsz hz ls hl
  subst hsz
  have hA : ∀ q : Nat, s.heap.size ≤ q → va_A [(h0, .inl (g 1, 1, .inr (.inl (fun _ => 0)))), ((a 0), f_x a), ((a 7), f_ring a)] s.heap.size q := Anw
  have hAz : ∀ q, va_A [(h0, .inl (g 1, 1, .inr (.inl (fun _ => 0)))), ((a 0), f_x a), ((a 7), f_ring a)] s.heap.size q → z0 ≤ q := Awz hz hD0
  have hS : va_S (va_A [(h0, .inl (g 1, 1, .inr (.inl (fun _ => 0)))), ((a 0), f_x a), ((a 7), f_ring a)] s.heap.size) s.heap s.heap [] := va_S.rf
  have hD : va_D (va_A [(h0, .inl (g 1, 1, .inr (.inl (fun _ => 0)))), ((a 0), f_x a), ((a 7), f_ring a)] s.heap.size) [(h0, .inl (g 1, 1, .inr (.inl (fun _ => 0)))), ((a 0), f_x a), ((a 7), f_ring a)] := hD0.self
  have hP : va_P D vwCl [(h0, .inl (g 1, 1, .inr (.inl (fun _ => 0)))), ((a 0), f_x a), ((a 7), f_ring a)] s.heap := hP0
  have hl : lv_has ls 5 [(0, .ref (a 0)), (1, .int p0), (2, .int p1), (3, .ref h0)] := hl
  refine lv_aload_n hx hb dL_setRing_0 rfl (lv_at hl 3 rfl) ?_
  refine lv_iconst (v := 0) hx hb dL_setRing_1 (by decide) ?_
  refine lv_aload_n hx hb dL_setRing_2 rfl (lv_at hl 0 rfl) ?_
  refine lv_iload_n hx hb dL_setRing_3 rfl (lv_at hl 1 rfl) ?_
  refine lv_iload_n hx hb dL_setRing_4 rfl (lv_at hl 2 rfl) ?_
  have hPc : va_P D vwCl [((a 0), f_x a), ((a 7), f_ring a)] _ := hP.sub (ws' := [((a 0), f_x a), ((a 7), f_ring a)]) [1, 2] rfl
  have hDc : va_D (fun q => z0 ≤ q) [((a 0), f_x a), ((a 7), f_ring a)] := (hD.to hAz).pick (ws' := [((a 0), f_x a), ((a 7), f_ring a)]) [1, 2] (by decide) rfl
  have hFc := va_free (wc := [((a 0), f_x a), ((a 7), f_ring a)]) hD hS hA [1, 2] rfl
  refine vx_calli (vx_runV (As := [.int p0, .int p1]) (rest := [.int 0, .ref h0]) ⟨hx, hb, hml, hown, ht⟩ (k_X11_setRing l hfl D g z0 _ a p0 p1) (cwV 2 ht (gV w_1261 w_1263 w_1264 w_31 w_1262) rfl rfl rfl (by decide +kernel) (le2 rfl rfl)) ⟨PP.blind, va_recv hK.1 hP (ci := 17) (q0 := 1) rfl rfl, PP.mk' hK hZ hz hAz hS hPc hDc⟩ rfl rfl hl.1 rfl (lv_room (Nat.le_of_ble_eq_true rfl)) dL_setRing_5 (le2 rfl rfl)) hS (fun q _ h => hFc q h) hFc (fun q _ h => hFc q h) (fun E ce q9 u t H locs ht1 hvm hw hB hz1 hk1 hS hcell hv9 hcl => ?_) (fun r u t H locs ht1 hvm hw hB hz1 hk1 hS => ?_)
  · obtain ⟨hP, hD⟩ := va_join (wr := [(h0, .inl (g 1, 1, .inr (.inl (fun _ => 0))))]) (w1 := []) hP hD [1, 2] [0] rfl rfl (by decide) (by decide) hk1 hFc nil_P nil_D
    have hP : va_P D vwCl [(h0, .inl (g 1, 1, .inr (.inl (fun _ => 0))))] H := hP
    have hD : va_D (va_A [(h0, .inl (g 1, 1, .inr (.inl (fun _ => 0)))), ((a 0), f_x a), ((a 7), f_ring a)] s.heap.size) [(h0, .inl (g 1, 1, .inr (.inl (fun _ => 0))))] := hD
    obtain ⟨rfl, hB⟩ := hB
    rcases hB with hB | hB | hB | hB
    · have c_1 := hB
      refine vx_catch hown [] ⟨0, 10, 13, 24⟩ [] (htab.trans rfl) (fun _ h9 => absurd h9 List.not_mem_nil) (by decide) (by decide) (ht _ w_540) (hK.2.2.use w_541) hcell hv9 hcl ?_
      refine W.eq (g2 := F0 m 13 ls [.ref q9]) rfl ?_
      refine lv_astore (lv' := [(4, .ref q9), (0, .ref (a 0)), (1, .int p0), (2, .int p1), (3, .ref h0)]) hx hb dL_setRing_13 hl (by decide) rfl (fun ls hl => ?_)
      refine lv_iconst (v := 1) hx hb dL_setRing_15 (by decide) ?_
      have hP9 := hP.sub (ws' := [(h0, .inl (g 1, 1, .inr (.inl (fun _ => 0))))]) [0] rfl
      have hD9 := hD.sub (ws' := [(h0, .inl (g 1, 1, .inr (.inl (fun _ => 0))))]) [0] (by decide) rfl
      refine W.widen (k := 2) (n := 12) (Nat.le_of_ble_eq_true rfl) (Nat.le_of_ble_eq_true rfl) ?_
      exact W.iret (v := 1) hx hb hr (fun t ht9 hW9 => ⟨⟨1, 0, rfl, (Or.inl ⟨rfl, rfl, (Or.inl c_1)⟩), ⟨(by rw [ht9]; exact hP9), hD9⟩⟩, hS.F ht9⟩) hS.2.2 dL_setRing_16 hlocks
    · obtain ⟨c_2, c_3⟩ := hB
      refine vx_catch hown [] ⟨0, 10, 13, 24⟩ [] (htab.trans rfl) (fun _ h9 => absurd h9 List.not_mem_nil) (by decide) (by decide) (ht _ w_540) (hK.2.2.use w_541) hcell hv9 hcl ?_
      refine W.eq (g2 := F0 m 13 ls [.ref q9]) rfl ?_
      refine lv_astore (lv' := [(4, .ref q9), (0, .ref (a 0)), (1, .int p0), (2, .int p1), (3, .ref h0)]) hx hb dL_setRing_13 hl (by decide) rfl (fun ls hl => ?_)
      refine lv_iconst (v := 1) hx hb dL_setRing_15 (by decide) ?_
      have hP9 := hP.sub (ws' := [(h0, .inl (g 1, 1, .inr (.inl (fun _ => 0))))]) [0] rfl
      have hD9 := hD.sub (ws' := [(h0, .inl (g 1, 1, .inr (.inl (fun _ => 0))))]) [0] (by decide) rfl
      refine W.widen (k := 2) (n := 12) (Nat.le_of_ble_eq_true rfl) (Nat.le_of_ble_eq_true rfl) ?_
      exact W.iret (v := 1) hx hb hr (fun t ht9 hW9 => ⟨⟨1, 0, rfl, (Or.inl ⟨rfl, rfl, (Or.inr (Or.inl ⟨c_2, c_3⟩))⟩), ⟨(by rw [ht9]; exact hP9), hD9⟩⟩, hS.F ht9⟩) hS.2.2 dL_setRing_16 hlocks
    · obtain ⟨c_4, c_5, c_6⟩ := hB
      refine vx_catch hown [] ⟨0, 10, 13, 24⟩ [] (htab.trans rfl) (fun _ h9 => absurd h9 List.not_mem_nil) (by decide) (by decide) (ht _ w_540) (hK.2.2.use w_541) hcell hv9 hcl ?_
      refine W.eq (g2 := F0 m 13 ls [.ref q9]) rfl ?_
      refine lv_astore (lv' := [(4, .ref q9), (0, .ref (a 0)), (1, .int p0), (2, .int p1), (3, .ref h0)]) hx hb dL_setRing_13 hl (by decide) rfl (fun ls hl => ?_)
      refine lv_iconst (v := 1) hx hb dL_setRing_15 (by decide) ?_
      have hP9 := hP.sub (ws' := [(h0, .inl (g 1, 1, .inr (.inl (fun _ => 0))))]) [0] rfl
      have hD9 := hD.sub (ws' := [(h0, .inl (g 1, 1, .inr (.inl (fun _ => 0))))]) [0] (by decide) rfl
      refine W.widen (k := 2) (n := 12) (Nat.le_of_ble_eq_true rfl) (Nat.le_of_ble_eq_true rfl) ?_
      exact W.iret (v := 1) hx hb hr (fun t ht9 hW9 => ⟨⟨1, 0, rfl, (Or.inl ⟨rfl, rfl, (Or.inr (Or.inr (Or.inl ⟨c_4, c_5, c_6⟩)))⟩), ⟨(by rw [ht9]; exact hP9), hD9⟩⟩, hS.F ht9⟩) hS.2.2 dL_setRing_16 hlocks
    · obtain ⟨c_7, c_8, c_9, c_10⟩ := hB
      refine vx_catch hown [] ⟨0, 10, 13, 24⟩ [] (htab.trans rfl) (fun _ h9 => absurd h9 List.not_mem_nil) (by decide) (by decide) (ht _ w_540) (hK.2.2.use w_541) hcell hv9 hcl ?_
      refine W.eq (g2 := F0 m 13 ls [.ref q9]) rfl ?_
      refine lv_astore (lv' := [(4, .ref q9), (0, .ref (a 0)), (1, .int p0), (2, .int p1), (3, .ref h0)]) hx hb dL_setRing_13 hl (by decide) rfl (fun ls hl => ?_)
      refine lv_iconst (v := 1) hx hb dL_setRing_15 (by decide) ?_
      have hP9 := hP.sub (ws' := [(h0, .inl (g 1, 1, .inr (.inl (fun _ => 0))))]) [0] rfl
      have hD9 := hD.sub (ws' := [(h0, .inl (g 1, 1, .inr (.inl (fun _ => 0))))]) [0] (by decide) rfl
      refine W.widen (k := 2) (n := 12) (Nat.le_of_ble_eq_true rfl) (Nat.le_of_ble_eq_true rfl) ?_
      exact W.iret (v := 1) hx hb hr (fun t ht9 hW9 => ⟨⟨1, 0, rfl, (Or.inl ⟨rfl, rfl, (Or.inr (Or.inr (Or.inr ⟨c_7, c_8, c_9, c_10⟩)))⟩), ⟨(by rw [ht9]; exact hP9), hD9⟩⟩, hS.F ht9⟩) hS.2.2 dL_setRing_16 hlocks
  · obtain ⟨rfl, hw⟩ := hw
    obtain ⟨c_11, c_12, c_13, c_14⟩ := hw
    obtain ⟨hP1, hD1⟩ := hB
    rw [ht1] at hP1
    obtain ⟨hP, hD⟩ := va_join (wr := [(h0, .inl (g 1, 1, .inr (.inl (fun _ => 0))))]) (w1 := []) hP hD [1, 2] [0] rfl rfl (by decide) (by decide) hk1 hFc hP1 hD1
    have hP : va_P D vwCl [(h0, .inl (g 1, 1, .inr (.inl (fun _ => 0))))] H := hP
    have hD : va_D (va_A [(h0, .inl (g 1, 1, .inr (.inl (fun _ => 0)))), ((a 0), f_x a), ((a 7), f_ring a)] s.heap.size) [(h0, .inl (g 1, 1, .inr (.inl (fun _ => 0))))] := hD
    refine lv_i2l (v := (oGo (stp p0 p1) (rM p0) 1 1).toInt64) hx hb dL_setRing_8 rfl ?_
    refine va_last hx hb hK.1 hP hD hS 0 1 rfl rfl (by unfold vp_in; decide) dL_setRing_9 (fun H locs hP hD hS => ?_)
    have hP : va_P D vwCl [(h0, .inl (g 1, 1, .inr (.inl (vp_updL (fun _ => 0) (0 : Int32).toNatClampNeg ((oGo (stp p0 p1) (rM p0) 1 1).toInt64)))))] H := hP
    have hD : va_D (va_A [(h0, .inl (g 1, 1, .inr (.inl (fun _ => 0)))), ((a 0), f_x a), ((a 7), f_ring a)] s.heap.size) [(h0, .inl (g 1, 1, .inr (.inl (vp_updL (fun _ => 0) (0 : Int32).toNatClampNeg ((oGo (stp p0 p1) (rM p0) 1 1).toInt64)))))] := hD
    have hP := one_up (v := ((oGo (stp p0 p1) (rM p0) 1 1).toInt64)) hP 0 rfl rfl
    have hD := va_D.set (p := 0) (e := .inl (g 1, 1, .inr (.inl (fun _ => ((oGo (stp p0 p1) (rM p0) 1 1).toInt64))))) hD rfl
    have hP : va_P D vwCl [(h0, .inl (g 1, 1, .inr (.inl (fun _ => ((oGo (stp p0 p1) (rM p0) 1 1).toInt64)))))] H := hP
    have hD : va_D (va_A [(h0, .inl (g 1, 1, .inr (.inl (fun _ => 0)))), ((a 0), f_x a), ((a 7), f_ring a)] s.heap.size) [(h0, .inl (g 1, 1, .inr (.inl (fun _ => ((oGo (stp p0 p1) (rM p0) 1 1).toInt64)))))] := hD
    refine lv_goto (tgt := 17) hx hb dL_setRing_10 (by decide) ?_
    refine lv_iconst (v := 0) hx hb dL_setRing_17 (by decide) ?_
    have hP9 := hP.sub (ws' := [(h0, .inl (g 1, 1, .inr (.inl (fun _ => ((oGo (stp p0 p1) (rM p0) 1 1).toInt64)))))]) [0] rfl
    have hD9 := hD.sub (ws' := [(h0, .inl (g 1, 1, .inr (.inl (fun _ => ((oGo (stp p0 p1) (rM p0) 1 1).toInt64)))))]) [0] (by decide) rfl
    refine W.widen (k := 2) (n := 12) (Nat.le_of_ble_eq_true rfl) (Nat.le_of_ble_eq_true rfl) ?_
    exact W.iret (v := 0) hx hb hr (fun t ht9 hW9 => ⟨⟨0, ((oGo (stp p0 p1) (rM p0) 1 1).toInt64), rfl, (Or.inr ⟨rfl, rfl, ⟨c_11, c_12, c_13, c_14⟩⟩), ⟨(by rw [ht9]; exact hP9), hD9⟩⟩, hS.F ht9⟩) hS.2.2 dL_setRing_18 hlocks
set_option maxHeartbeats 4000000 in
set_option maxRecDepth 100000 in
theorem k_X15_thrown_v4 (l : Launch) (D : va_G) (g : Nat → ClassId) (z0 sz : Nat) (a : Nat → Nat) (c0 : Int32) (c1 : Int32) : Met l yX15_thrown (.code yX15_thrown cX15_thrown 1 (some .int) :: TG) (rmk 0 0 0 0) (va_Pc [.ref (a 200)] (PP D g z0 sz [((a 200), .inr (21, [.int 0, .ref (a 201), .ref (a 202), .ref (a 203), .ref (a 204), .ref (a 205), .ref (a 206), .int 0, .int 0, .int 0, .int 0, .ref (a 208), .ref (a 209), .ref (a 210), .ref (a 211), .ref (a 212), .int c0, .int c1, .int (-1), .int 0, .ref (g 200), .ref (a 213), .int 0, .int 97, .ref (a 214), .ref (a 215), .ref (a 207), .null, .int 0]))])) (va_Qi (fun (r : Int32) (u : Unit) => (r = 0) ∧ True) (fun (u : Unit) (t : State) => va_P D vwCl [((a 200), .inr (21, [.int 0, .ref (a 201), .ref (a 202), .ref (a 203), .ref (a 204), .ref (a 205), .ref (a 206), .int 0, .int 0, .int 0, .int 0, .ref (a 208), .ref (a 209), .ref (a 210), .ref (a 211), .ref (a 212), .int c0, .int c1, .int (-1), .int 0, .ref (g 200), .ref (a 213), .int 0, .int 97, .ref (a 214), .ref (a 215), .ref (a 207), .null, .int 0]))] t.heap ∧ va_D (va_A [((a 200), .inr (21, [.int 0, .ref (a 201), .ref (a 202), .ref (a 203), .ref (a 204), .ref (a 205), .ref (a 206), .int 0, .int 0, .int 0, .int 0, .ref (a 208), .ref (a 209), .ref (a 210), .ref (a 211), .ref (a 212), .int c0, .int c1, .int (-1), .int 0, .ref (g 200), .ref (a 213), .int 0, .int 97, .ref (a 214), .ref (a 215), .ref (a 207), .null, .int 0]))] sz) [((a 200), .inr (21, [.int 0, .ref (a 201), .ref (a 202), .ref (a 203), .ref (a 204), .ref (a 205), .ref (a 206), .int 0, .int 0, .int 0, .int 0, .ref (a 208), .ref (a 209), .ref (a 210), .ref (a 211), .ref (a 212), .int c0, .int c1, .int (-1), .int 0, .ref (g 200), .ref (a 213), .int 0, .int 97, .ref (a 214), .ref (a 215), .ref (a 207), .null, .int 0]))]) (va_A [((a 200), .inr (21, [.int 0, .ref (a 201), .ref (a 202), .ref (a 203), .ref (a 204), .ref (a 205), .ref (a 206), .int 0, .int 0, .int 0, .int 0, .ref (a 208), .ref (a 209), .ref (a 210), .ref (a 211), .ref (a 212), .int c0, .int c1, .int (-1), .int 0, .ref (g 200), .ref (a 213), .int 0, .int 97, .ref (a 214), .ref (a 215), .ref (a 207), .null, .int 0]))] sz)) 0 0 (va_A [((a 200), .inr (21, [.int 0, .ref (a 201), .ref (a 202), .ref (a 203), .ref (a 204), .ref (a 205), .ref (a 206), .int 0, .int 0, .int 0, .int 0, .ref (a 208), .ref (a 209), .ref (a 210), .ref (a 211), .ref (a 212), .int c0, .int c1, .int (-1), .int 0, .ref (g 200), .ref (a 213), .int 0, .int 97, .ref (a 214), .ref (a 215), .ref (a 207), .null, .int 0]))] sz) := by
  refine met0 (cc := cX15_thrown) (n := 1) (by decide) (Nat.le_of_ble_eq_true rfl) ?_
  intro p e s m args below meth c hx hb hr hml hown ht hlocks hnm hP0 hD0 hK hZ hsz hz ls hl
  subst hsz
  have hA : ∀ q : Nat, s.heap.size ≤ q → va_A [((a 200), .inr (21, [.int 0, .ref (a 201), .ref (a 202), .ref (a 203), .ref (a 204), .ref (a 205), .ref (a 206), .int 0, .int 0, .int 0, .int 0, .ref (a 208), .ref (a 209), .ref (a 210), .ref (a 211), .ref (a 212), .int c0, .int c1, .int (-1), .int 0, .ref (g 200), .ref (a 213), .int 0, .int 97, .ref (a 214), .ref (a 215), .ref (a 207), .null, .int 0]))] s.heap.size q := Anw
  have hAz : ∀ q, va_A [((a 200), .inr (21, [.int 0, .ref (a 201), .ref (a 202), .ref (a 203), .ref (a 204), .ref (a 205), .ref (a 206), .int 0, .int 0, .int 0, .int 0, .ref (a 208), .ref (a 209), .ref (a 210), .ref (a 211), .ref (a 212), .int c0, .int c1, .int (-1), .int 0, .ref (g 200), .ref (a 213), .int 0, .int 97, .ref (a 214), .ref (a 215), .ref (a 207), .null, .int 0]))] s.heap.size q → z0 ≤ q := Awz hz hD0
  have hS : va_S (va_A [((a 200), .inr (21, [.int 0, .ref (a 201), .ref (a 202), .ref (a 203), .ref (a 204), .ref (a 205), .ref (a 206), .int 0, .int 0, .int 0, .int 0, .ref (a 208), .ref (a 209), .ref (a 210), .ref (a 211), .ref (a 212), .int c0, .int c1, .int (-1), .int 0, .ref (g 200), .ref (a 213), .int 0, .int 97, .ref (a 214), .ref (a 215), .ref (a 207), .null, .int 0]))] s.heap.size) s.heap s.heap [] := va_S.rf
  have hD : va_D (va_A [((a 200), .inr (21, [.int 0, .ref (a 201), .ref (a 202), .ref (a 203), .ref (a 204), .ref (a 205), .ref (a 206), .int 0, .int 0, .int 0, .int 0, .ref (a 208), .ref (a 209), .ref (a 210), .ref (a 211), .ref (a 212), .int c0, .int c1, .int (-1), .int 0, .ref (g 200), .ref (a 213), .int 0, .int 97, .ref (a 214), .ref (a 215), .ref (a 207), .null, .int 0]))] s.heap.size) [((a 200), .inr (21, [.int 0, .ref (a 201), .ref (a 202), .ref (a 203), .ref (a 204), .ref (a 205), .ref (a 206), .int 0, .int 0, .int 0, .int 0, .ref (a 208), .ref (a 209), .ref (a 210), .ref (a 211), .ref (a 212), .int c0, .int c1, .int (-1), .int 0, .ref (g 200), .ref (a 213), .int 0, .int 97, .ref (a 214), .ref (a 215), .ref (a 207), .null, .int 0]))] := hD0.self
  have hP : va_P D vwCl [((a 200), .inr (21, [.int 0, .ref (a 201), .ref (a 202), .ref (a 203), .ref (a 204), .ref (a 205), .ref (a 206), .int 0, .int 0, .int 0, .int 0, .ref (a 208), .ref (a 209), .ref (a 210), .ref (a 211), .ref (a 212), .int c0, .int c1, .int (-1), .int 0, .ref (g 200), .ref (a 213), .int 0, .int 97, .ref (a 214), .ref (a 215), .ref (a 207), .null, .int 0]))] s.heap := hP0
  have hl : lv_has ls 1 [(0, .ref (a 200))] := hl
  refine lv_aload_n hx hb dX15_thrown_0 rfl (lv_at hl 0 rfl) ?_
  refine va_get (D := D) (ci := 21) (v := .int 0) (C := RX15) (T := TX15) (N := 29) hx hb ht in_X15 hown hK.1 hP 0 rfl rfl 0 (by decide) (ht _ w_303) (fun _ h9 => h9) rfl dX15_thrown_1 ?_
  have hP9 := hP.sub (ws' := [((a 200), .inr (21, [.int 0, .ref (a 201), .ref (a 202), .ref (a 203), .ref (a 204), .ref (a 205), .ref (a 206), .int 0, .int 0, .int 0, .int 0, .ref (a 208), .ref (a 209), .ref (a 210), .ref (a 211), .ref (a 212), .int c0, .int c1, .int (-1), .int 0, .ref (g 200), .ref (a 213), .int 0, .int 97, .ref (a 214), .ref (a 215), .ref (a 207), .null, .int 0]))]) [0] rfl
  have hD9 := hD.sub (ws' := [((a 200), .inr (21, [.int 0, .ref (a 201), .ref (a 202), .ref (a 203), .ref (a 204), .ref (a 205), .ref (a 206), .int 0, .int 0, .int 0, .int 0, .ref (a 208), .ref (a 209), .ref (a 210), .ref (a 211), .ref (a 212), .int c0, .int c1, .int (-1), .int 0, .ref (g 200), .ref (a 213), .int 0, .int 97, .ref (a 214), .ref (a 215), .ref (a 207), .null, .int 0]))]) [0] (by decide) rfl
  refine W.widen (k := 0) (n := 0) (Nat.le_of_ble_eq_true rfl) (Nat.le_of_ble_eq_true rfl) ?_
  exact W.iret (v := 0) hx hb hr (fun t ht9 hW9 => ⟨⟨0, (), rfl, ⟨rfl, trivial⟩, ⟨(by rw [ht9]; exact hP9), hD9⟩⟩, hS.F ht9⟩) hS.2.2 dX15_thrown_4 hlocks
set_option maxHeartbeats 4000000 in
set_option maxRecDepth 100000 in
theorem lw_case_30 {p : Program} {l : Launch} {e : Env} {s : State} {m : MethodId} {below : List Frame} {meth : Method} {c : Code} {H : Heap} {locs : List Loc} {ls : Array Slot} {Q : State → Prop} {D : va_G} {g : Nat → ClassId} {z0 b : Nat} {xs : Nat → Int32} {a : Nat → Nat} {o1 o2 : Nat} (hfl : l.stackTraces = false) (hx : p.tables.exec = Jvm.exec) (hb : c.code = cL_law) (hml : c.maxLocals = 9) (hown : s.vm.findClass RL = some m.cls) (ht : ∀ w ∈ TG, w.before #[Value.ref b] s = true) (hX : va_X b 6 xs s s.heap) (hbl : b < s.heap.size) (hbA : ¬ va_A [] s.heap.size b) (hK : KK D g s) (hZ : ZZ g z0 s) (hz : z0 ≤ s.heap.size) (hAz : ∀ q, va_A [] s.heap.size q → z0 ≤ q) (hP : va_P D vwCl (lwW a g o1 o2) H) (hD : va_D (va_A [] s.heap.size) (lwW a g o1 o2)) (hS : va_S (va_A [] s.heap.size) s.heap H locs) (hl : lv_has ls 9 [(0, .ref b), (1, .ref (a 0)), (2, .ref (a 200)), (3, .ref o1), (4, .ref o2), (5, .int 0)])
    (kk : ∀ (H : Heap) (locs : List Loc) (ls : Array Slot), va_S (va_A [] s.heap.size) s.heap H locs → lv_has ls 9 [(5, .int 0), (0, .ref b)] → W p l e room_1 s m #[Value.ref b] below meth c H locs (200 + 300) (8000 + 2000) Q (F0 m 4264 ls [])) :
    W p l e room_1 s m #[Value.ref b] below meth c H locs 200 8000 Q (F0 m 2033 ls []) := by
  have hA : ∀ q : Nat, s.heap.size ≤ q → va_A [] s.heap.size q := Anw
  have hP := hP.sub (ws' := [((a 0), f_x a), ((a 7), f_ring a), ((a 200), f_m a g), (o1, .inl (g 1, 1, .inr (.inl (fun _ => 0))))]) [0, 14, 26, 61] rfl
  have hD := hD.sub (ws' := [((a 0), f_x a), ((a 7), f_ring a), ((a 200), f_m a g), (o1, .inl (g 1, 1, .inr (.inl (fun _ => 0))))]) [0, 14, 26, 61] (by decide) rfl
  refine lv_aload_n hx hb dL_law_2033 rfl (lv_at hl 1 rfl) ?_
  refine lv_aload_n hx hb dL_law_2034 rfl (lv_at hl 0 rfl) ?_
  refine lv_iload hx hb dL_law_2035 (lv_at hl 5 rfl) ?_
  refine lv_iconst (v := 1) hx hb dL_law_2037 (by decide) ?_
  refine lv_iadd hx hb dL_law_2038 ?_
  refine r_topi (v := 1) (by decide) ?_
  refine va_sld hx hb hX hbl hbA hS (by unfold vp_in; decide) dL_law_2039 ?_
  refine r_topi (v := xs 1) (congrArg xs (by decide)) ?_
  refine lv_aload_n hx hb dL_law_2040 rfl (lv_at hl 0 rfl) ?_
  refine lv_iload hx hb dL_law_2041 (lv_at hl 5 rfl) ?_
  refine lv_iconst (v := 2) hx hb dL_law_2043 (by decide) ?_
  refine lv_iadd hx hb dL_law_2044 ?_
  refine r_topi (v := 2) (by decide) ?_
  refine va_sld hx hb hX hbl hbA hS (by unfold vp_in; decide) dL_law_2045 ?_
  refine r_topi (v := xs 2) (congrArg xs (by decide)) ?_
  refine lv_aload_n hx hb dL_law_2046 rfl (lv_at hl 3 rfl) ?_
  have hPc : va_P D vwCl [(o1, .inl (g 1, 1, .inr (.inl (fun _ => 0)))), ((a 0), f_x a), ((a 7), f_ring a)] _ := hP.sub (ws' := [(o1, .inl (g 1, 1, .inr (.inl (fun _ => 0)))), ((a 0), f_x a), ((a 7), f_ring a)]) [3, 0, 1] rfl
  have hDc : va_D (fun q => z0 ≤ q) [(o1, .inl (g 1, 1, .inr (.inl (fun _ => 0)))), ((a 0), f_x a), ((a 7), f_ring a)] := (hD.to hAz).pick (ws' := [(o1, .inl (g 1, 1, .inr (.inl (fun _ => 0)))), ((a 0), f_x a), ((a 7), f_ring a)]) [3, 0, 1] (by decide) rfl
  have hFc := va_free (wc := [(o1, .inl (g 1, 1, .inr (.inl (fun _ => 0)))), ((a 0), f_x a), ((a 7), f_ring a)]) hD hS hA [3, 0, 1] rfl
  refine va_calli (vx_runSW (As := [.ref (a 0), .int (xs 1), .int (xs 2), .ref o1]) (rest := []) ⟨hx, hb, hml, hown, ht⟩ (k_L_setRing l hfl D g z0 _ a (xs 1) (xs 2) o1) (vx_cwSW 4 ht (gS w_1265 w_1267 w_767 w_1266) rfl rfl rfl (by decide +kernel) (le2 rfl rfl)) ⟨PP.blind, PP.mk' hK hZ hz hAz hS hPc hDc⟩ rfl rfl hl.1 rfl (lv_room (Nat.le_of_ble_eq_true rfl)) dL_law_2047 (le2 rfl rfl)) hS (fun q _ h => hFc q h) hFc (fun r u t H locs ht1 hvm hw hB hz1 hk1 hS => ?_)
  rcases hw with hw | hw
  · obtain ⟨rfl, rfl, hw⟩ := hw
    rcases hw with hw | hw | hw | hw
    · have c_1 := hw
      obtain ⟨hP1, hD1⟩ := hB
      rw [ht1] at hP1
      obtain ⟨hP, hD⟩ := va_join (wr := [((a 200), f_m a g)]) (w1 := [(o1, .inl (g 1, 1, .inr (.inl (fun _ => 0))))]) hP hD [3, 0, 1] [2] rfl rfl (by decide) (by decide) hk1 hFc hP1 hD1
      have hP : va_P D vwCl [((a 200), f_m a g), (o1, .inl (g 1, 1, .inr (.inl (fun _ => 0))))] H := hP
      have hD : va_D (va_A [] s.heap.size) [((a 200), f_m a g), (o1, .inl (g 1, 1, .inr (.inl (fun _ => 0))))] := hD
      refine lv_istore (lv' := [(6, .int 1), (0, .ref b), (1, .ref (a 0)), (2, .ref (a 200)), (3, .ref o1), (4, .ref o2), (5, .int 0)]) hx hb dL_law_2050 hl (by decide) rfl (fun ls hl => ?_)
      refine lv_aload_n hx hb dL_law_2052 rfl (lv_at hl 3 rfl) ?_
      refine lv_aload_n hx hb dL_law_2053 rfl (lv_at hl 1 rfl) ?_
      refine lv_iload hx hb dL_law_2054 (lv_at hl 6 rfl) ?_
      refine lv_iconst (v := 1) hx hb dL_law_2056 (by decide) ?_
      refine lv_iadd hx hb dL_law_2057 ?_
      refine r_topi (v := 1) (by decide) ?_
      refine va_sld hx hb hX hbl hbA hS (by unfold vp_in; decide) dL_law_2058 ?_
      refine r_topi (v := xs 1) (congrArg xs (by decide)) ?_
      refine lv_aload_n hx hb dL_law_2059 rfl (lv_at hl 1 rfl) ?_
      refine lv_iload hx hb dL_law_2060 (lv_at hl 6 rfl) ?_
      refine lv_iconst (v := 2) hx hb dL_law_2062 (by decide) ?_
      refine lv_iadd hx hb dL_law_2063 ?_
      refine r_topi (v := 2) (by decide) ?_
      refine va_sld hx hb hX hbl hbA hS (by unfold vp_in; decide) dL_law_2064 ?_
      refine r_topi (v := xs 2) (congrArg xs (by decide)) ?_
      have hPc : va_P D vwCl [((a 200), f_m a g)] _ := hP.sub (ws' := [((a 200), f_m a g)]) [0] rfl
      have hDc : va_D (fun q => z0 ≤ q) [((a 200), f_m a g)] := (hD.to hAz).pick (ws' := [((a 200), f_m a g)]) [0] (by decide) rfl
      have hFc := va_free (wc := [((a 200), f_m a g)]) hD hS hA [0] rfl
      refine va_calli (va_runV (As := [.int (xs 1), .int (xs 2)]) (rest := []) ⟨hx, hb, hml, hown, ht⟩ (k_X15_setRing l D g z0 _ a (xs 1) (xs 2)) (cwV 2 ht (gV w_1268 w_1270 w_1271 w_334 w_1269) rfl rfl rfl (by decide +kernel) (le2 rfl rfl)) ⟨PP.blind, va_recv hK.1 hP (ci := 21) (q0 := 0) rfl rfl, PP.mk' hK hZ hz hAz hS hPc hDc⟩ rfl rfl hl.1 rfl (lv_room (Nat.le_of_ble_eq_true rfl)) dL_law_2065 (le2 rfl rfl)) hS (fun q _ h => hFc q h) hFc (fun r u t H locs ht1 hvm hw hB hz1 hk1 hS => ?_)
      obtain ⟨u0, u1, u2⟩ := u
      rcases hw with hw | hw
      · obtain ⟨rfl, rfl, rfl, rfl, hw⟩ := hw
        rcases hw with hw | hw | hw | hw
        · have c_2 := hw
          obtain ⟨hP1, hD1⟩ := hB
          rw [ht1] at hP1
          obtain ⟨hP, hD⟩ := va_join (wr := [(o1, .inl (g 1, 1, .inr (.inl (fun _ => 0))))]) (w1 := [((a 200), .inr (21, [.int 1, .ref (a 201), .ref (a 202), .ref (a 203), .ref (a 204), .ref (a 205), .ref (a 206), .int 0, .int 0, .int 0, .int 0, .ref (a 208), .ref (a 209), .ref (a 210), .ref (a 211), .ref (a 212), .int 4, .int 12, .int (-1), .int 0, .ref (g 200), .ref (a 213), .int 0, .int 97, .ref (a 214), .ref (a 215), .ref (a 207), .null, .int 0]))]) hP hD [0] [1] rfl rfl (by decide) (by decide) hk1 hFc hP1 hD1
          have hP : va_P D vwCl [(o1, .inl (g 1, 1, .inr (.inl (fun _ => 0)))), ((a 200), .inr (21, [.int 1, .ref (a 201), .ref (a 202), .ref (a 203), .ref (a 204), .ref (a 205), .ref (a 206), .int 0, .int 0, .int 0, .int 0, .ref (a 208), .ref (a 209), .ref (a 210), .ref (a 211), .ref (a 212), .int 4, .int 12, .int (-1), .int 0, .ref (g 200), .ref (a 213), .int 0, .int 97, .ref (a 214), .ref (a 215), .ref (a 207), .null, .int 0]))] H := hP
          have hD : va_D (va_A [] s.heap.size) [(o1, .inl (g 1, 1, .inr (.inl (fun _ => 0)))), ((a 200), .inr (21, [.int 1, .ref (a 201), .ref (a 202), .ref (a 203), .ref (a 204), .ref (a 205), .ref (a 206), .int 0, .int 0, .int 0, .int 0, .ref (a 208), .ref (a 209), .ref (a 210), .ref (a 211), .ref (a 212), .int 4, .int 12, .int (-1), .int 0, .ref (g 200), .ref (a 213), .int 0, .int 97, .ref (a 214), .ref (a 215), .ref (a 207), .null, .int 0]))] := hD
          refine lv_istore (lv' := [(7, .int 0), (6, .int 1), (0, .ref b), (1, .ref (a 0)), (2, .ref (a 200)), (3, .ref o1), (4, .ref o2), (5, .int 0)]) hx hb dL_law_2068 hl (by decide) rfl (fun ls hl => ?_)
          refine lv_aload_n hx hb dL_law_2070 rfl (lv_at hl 4 rfl) ?_
          have hPc : va_P D vwCl [((a 200), .inr (21, [.int 1, .ref (a 201), .ref (a 202), .ref (a 203), .ref (a 204), .ref (a 205), .ref (a 206), .int 0, .int 0, .int 0, .int 0, .ref (a 208), .ref (a 209), .ref (a 210), .ref (a 211), .ref (a 212), .int 4, .int 12, .int (-1), .int 0, .ref (g 200), .ref (a 213), .int 0, .int 97, .ref (a 214), .ref (a 215), .ref (a 207), .null, .int 0]))] _ := hP.sub (ws' := [((a 200), .inr (21, [.int 1, .ref (a 201), .ref (a 202), .ref (a 203), .ref (a 204), .ref (a 205), .ref (a 206), .int 0, .int 0, .int 0, .int 0, .ref (a 208), .ref (a 209), .ref (a 210), .ref (a 211), .ref (a 212), .int 4, .int 12, .int (-1), .int 0, .ref (g 200), .ref (a 213), .int 0, .int 97, .ref (a 214), .ref (a 215), .ref (a 207), .null, .int 0]))]) [1] rfl
          have hDc : va_D (fun q => z0 ≤ q) [((a 200), .inr (21, [.int 1, .ref (a 201), .ref (a 202), .ref (a 203), .ref (a 204), .ref (a 205), .ref (a 206), .int 0, .int 0, .int 0, .int 0, .ref (a 208), .ref (a 209), .ref (a 210), .ref (a 211), .ref (a 212), .int 4, .int 12, .int (-1), .int 0, .ref (g 200), .ref (a 213), .int 0, .int 97, .ref (a 214), .ref (a 215), .ref (a 207), .null, .int 0]))] := (hD.to hAz).pick (ws' := [((a 200), .inr (21, [.int 1, .ref (a 201), .ref (a 202), .ref (a 203), .ref (a 204), .ref (a 205), .ref (a 206), .int 0, .int 0, .int 0, .int 0, .ref (a 208), .ref (a 209), .ref (a 210), .ref (a 211), .ref (a 212), .int 4, .int 12, .int (-1), .int 0, .ref (g 200), .ref (a 213), .int 0, .int 97, .ref (a 214), .ref (a 215), .ref (a 207), .null, .int 0]))]) [1] (by decide) rfl
          have hFc := va_free (wc := [((a 200), .inr (21, [.int 1, .ref (a 201), .ref (a 202), .ref (a 203), .ref (a 204), .ref (a 205), .ref (a 206), .int 0, .int 0, .int 0, .int 0, .ref (a 208), .ref (a 209), .ref (a 210), .ref (a 211), .ref (a 212), .int 4, .int 12, .int (-1), .int 0, .ref (g 200), .ref (a 213), .int 0, .int 97, .ref (a 214), .ref (a 215), .ref (a 207), .null, .int 0]))]) hD hS hA [1] rfl
          refine va_calli (va_runV (As := []) (rest := []) ⟨hx, hb, hml, hown, ht⟩ (k_X15_thrown_v2 l D g z0 _ a) (cwV 0 ht (gV w_772 w_774 w_775 w_334 w_773) rfl rfl rfl (by decide +kernel) (le2 rfl rfl)) ⟨PP.blind, va_recv hK.1 hP (ci := 21) (q0 := 1) rfl rfl, PP.mk' hK hZ hz hAz hS hPc hDc⟩ rfl rfl hl.1 rfl (lv_room (Nat.le_of_ble_eq_true rfl)) dL_law_2071 (le2 rfl rfl)) hS (fun q _ h => hFc q h) hFc (fun r u t H locs ht1 hvm hw hB hz1 hk1 hS => ?_)
          obtain ⟨rfl, hw⟩ := hw
          obtain ⟨hP1, hD1⟩ := hB
          rw [ht1] at hP1
          obtain ⟨hP, hD⟩ := va_join (wr := [(o1, .inl (g 1, 1, .inr (.inl (fun _ => 0))))]) (w1 := [((a 200), .inr (21, [.int 1, .ref (a 201), .ref (a 202), .ref (a 203), .ref (a 204), .ref (a 205), .ref (a 206), .int 0, .int 0, .int 0, .int 0, .ref (a 208), .ref (a 209), .ref (a 210), .ref (a 211), .ref (a 212), .int 4, .int 12, .int (-1), .int 0, .ref (g 200), .ref (a 213), .int 0, .int 97, .ref (a 214), .ref (a 215), .ref (a 207), .null, .int 0]))]) hP hD [1] [0] rfl rfl (by decide) (by decide) hk1 hFc hP1 hD1
          have hP : va_P D vwCl [(o1, .inl (g 1, 1, .inr (.inl (fun _ => 0)))), ((a 200), .inr (21, [.int 1, .ref (a 201), .ref (a 202), .ref (a 203), .ref (a 204), .ref (a 205), .ref (a 206), .int 0, .int 0, .int 0, .int 0, .ref (a 208), .ref (a 209), .ref (a 210), .ref (a 211), .ref (a 212), .int 4, .int 12, .int (-1), .int 0, .ref (g 200), .ref (a 213), .int 0, .int 97, .ref (a 214), .ref (a 215), .ref (a 207), .null, .int 0]))] H := hP
          have hD : va_D (va_A [] s.heap.size) [(o1, .inl (g 1, 1, .inr (.inl (fun _ => 0)))), ((a 200), .inr (21, [.int 1, .ref (a 201), .ref (a 202), .ref (a 203), .ref (a 204), .ref (a 205), .ref (a 206), .int 0, .int 0, .int 0, .int 0, .ref (a 208), .ref (a 209), .ref (a 210), .ref (a 211), .ref (a 212), .int 4, .int 12, .int (-1), .int 0, .ref (g 200), .ref (a 213), .int 0, .int 97, .ref (a 214), .ref (a 215), .ref (a 207), .null, .int 0]))] := hD
          refine lv_iload hx hb dL_law_2074 (lv_at hl 1 rfl) ?_
          refine lv_icmp_eq (tgt := 2081) hx hb dL_law_2076 (by decide) (fun c_3 => ?_) (fun c_3 => ?_)
          · refine lv_iload hx hb dL_law_2081 (lv_at hl 1 rfl) ?_
            refine lv_if_ne (tgt := 2098) hx hb dL_law_2083 (by decide) (fun c_4 => ?_) (fun c_4 => ?_)
            · refine lv_goto (tgt := 4264) hx hb dL_law_2098 (by decide) ?_
              refine W.widen (k := 200 + 300) (n := 8000 + 2000) (Nat.le_of_ble_eq_true rfl) (Nat.le_of_ble_eq_true rfl) ?_
              exact kk _ _ _ hS (lv_sub hl [7, 2] rfl)
            · exact absurd c_4 (by decide)
          · exact absurd c_3 (by decide)
        · obtain ⟨c_5, c_6⟩ := hw
          exact absurd c_1 c_5
        · obtain ⟨c_7, c_8, c_9⟩ := hw
          exact absurd c_1 c_7
        · obtain ⟨c_10, c_11, c_12, c_13⟩ := hw
          exact absurd c_1 c_10
      · obtain ⟨rfl, rfl, rfl, rfl, hw⟩ := hw
        rcases hw with hw | hw
        · obtain ⟨c_14, c_15, c_16, c_17⟩ := hw
          exact absurd c_1 c_14
        · obtain ⟨c_18, c_19, c_20, c_21⟩ := hw
          exact absurd c_1 c_18
    · obtain ⟨c_22, c_23⟩ := hw
      obtain ⟨hP1, hD1⟩ := hB
      rw [ht1] at hP1
      obtain ⟨hP, hD⟩ := va_join (wr := [((a 200), f_m a g)]) (w1 := [(o1, .inl (g 1, 1, .inr (.inl (fun _ => 0))))]) hP hD [3, 0, 1] [2] rfl rfl (by decide) (by decide) hk1 hFc hP1 hD1
      have hP : va_P D vwCl [((a 200), f_m a g), (o1, .inl (g 1, 1, .inr (.inl (fun _ => 0))))] H := hP
      have hD : va_D (va_A [] s.heap.size) [((a 200), f_m a g), (o1, .inl (g 1, 1, .inr (.inl (fun _ => 0))))] := hD
      refine lv_istore (lv' := [(6, .int 1), (0, .ref b), (1, .ref (a 0)), (2, .ref (a 200)), (3, .ref o1), (4, .ref o2), (5, .int 0)]) hx hb dL_law_2050 hl (by decide) rfl (fun ls hl => ?_)
      refine lv_aload_n hx hb dL_law_2052 rfl (lv_at hl 3 rfl) ?_
      refine lv_aload_n hx hb dL_law_2053 rfl (lv_at hl 1 rfl) ?_
      refine lv_iload hx hb dL_law_2054 (lv_at hl 6 rfl) ?_
      refine lv_iconst (v := 1) hx hb dL_law_2056 (by decide) ?_
      refine lv_iadd hx hb dL_law_2057 ?_
      refine r_topi (v := 1) (by decide) ?_
      refine va_sld hx hb hX hbl hbA hS (by unfold vp_in; decide) dL_law_2058 ?_
      refine r_topi (v := xs 1) (congrArg xs (by decide)) ?_
      refine lv_aload_n hx hb dL_law_2059 rfl (lv_at hl 1 rfl) ?_
      refine lv_iload hx hb dL_law_2060 (lv_at hl 6 rfl) ?_
      refine lv_iconst (v := 2) hx hb dL_law_2062 (by decide) ?_
      refine lv_iadd hx hb dL_law_2063 ?_
      refine r_topi (v := 2) (by decide) ?_
      refine va_sld hx hb hX hbl hbA hS (by unfold vp_in; decide) dL_law_2064 ?_
      refine r_topi (v := xs 2) (congrArg xs (by decide)) ?_
      have hPc : va_P D vwCl [((a 200), f_m a g)] _ := hP.sub (ws' := [((a 200), f_m a g)]) [0] rfl
      have hDc : va_D (fun q => z0 ≤ q) [((a 200), f_m a g)] := (hD.to hAz).pick (ws' := [((a 200), f_m a g)]) [0] (by decide) rfl
      have hFc := va_free (wc := [((a 200), f_m a g)]) hD hS hA [0] rfl
      refine va_calli (va_runV (As := [.int (xs 1), .int (xs 2)]) (rest := []) ⟨hx, hb, hml, hown, ht⟩ (k_X15_setRing l D g z0 _ a (xs 1) (xs 2)) (cwV 2 ht (gV w_1268 w_1270 w_1271 w_334 w_1269) rfl rfl rfl (by decide +kernel) (le2 rfl rfl)) ⟨PP.blind, va_recv hK.1 hP (ci := 21) (q0 := 0) rfl rfl, PP.mk' hK hZ hz hAz hS hPc hDc⟩ rfl rfl hl.1 rfl (lv_room (Nat.le_of_ble_eq_true rfl)) dL_law_2065 (le2 rfl rfl)) hS (fun q _ h => hFc q h) hFc (fun r u t H locs ht1 hvm hw hB hz1 hk1 hS => ?_)
      obtain ⟨u0, u1, u2⟩ := u
      rcases hw with hw | hw
      · obtain ⟨rfl, rfl, rfl, rfl, hw⟩ := hw
        rcases hw with hw | hw | hw | hw
        · have c_24 := hw
          exact absurd c_24 c_22
        · obtain ⟨c_25, c_26⟩ := hw
          obtain ⟨hP1, hD1⟩ := hB
          rw [ht1] at hP1
          obtain ⟨hP, hD⟩ := va_join (wr := [(o1, .inl (g 1, 1, .inr (.inl (fun _ => 0))))]) (w1 := [((a 200), .inr (21, [.int 1, .ref (a 201), .ref (a 202), .ref (a 203), .ref (a 204), .ref (a 205), .ref (a 206), .int 0, .int 0, .int 0, .int 0, .ref (a 208), .ref (a 209), .ref (a 210), .ref (a 211), .ref (a 212), .int 4, .int 12, .int (-1), .int 0, .ref (g 200), .ref (a 213), .int 0, .int 97, .ref (a 214), .ref (a 215), .ref (a 207), .null, .int 0]))]) hP hD [0] [1] rfl rfl (by decide) (by decide) hk1 hFc hP1 hD1
          have hP : va_P D vwCl [(o1, .inl (g 1, 1, .inr (.inl (fun _ => 0)))), ((a 200), .inr (21, [.int 1, .ref (a 201), .ref (a 202), .ref (a 203), .ref (a 204), .ref (a 205), .ref (a 206), .int 0, .int 0, .int 0, .int 0, .ref (a 208), .ref (a 209), .ref (a 210), .ref (a 211), .ref (a 212), .int 4, .int 12, .int (-1), .int 0, .ref (g 200), .ref (a 213), .int 0, .int 97, .ref (a 214), .ref (a 215), .ref (a 207), .null, .int 0]))] H := hP
          have hD : va_D (va_A [] s.heap.size) [(o1, .inl (g 1, 1, .inr (.inl (fun _ => 0)))), ((a 200), .inr (21, [.int 1, .ref (a 201), .ref (a 202), .ref (a 203), .ref (a 204), .ref (a 205), .ref (a 206), .int 0, .int 0, .int 0, .int 0, .ref (a 208), .ref (a 209), .ref (a 210), .ref (a 211), .ref (a 212), .int 4, .int 12, .int (-1), .int 0, .ref (g 200), .ref (a 213), .int 0, .int 97, .ref (a 214), .ref (a 215), .ref (a 207), .null, .int 0]))] := hD
          refine lv_istore (lv' := [(7, .int 0), (6, .int 1), (0, .ref b), (1, .ref (a 0)), (2, .ref (a 200)), (3, .ref o1), (4, .ref o2), (5, .int 0)]) hx hb dL_law_2068 hl (by decide) rfl (fun ls hl => ?_)
          refine lv_aload_n hx hb dL_law_2070 rfl (lv_at hl 4 rfl) ?_
          have hPc : va_P D vwCl [((a 200), .inr (21, [.int 1, .ref (a 201), .ref (a 202), .ref (a 203), .ref (a 204), .ref (a 205), .ref (a 206), .int 0, .int 0, .int 0, .int 0, .ref (a 208), .ref (a 209), .ref (a 210), .ref (a 211), .ref (a 212), .int 4, .int 12, .int (-1), .int 0, .ref (g 200), .ref (a 213), .int 0, .int 97, .ref (a 214), .ref (a 215), .ref (a 207), .null, .int 0]))] _ := hP.sub (ws' := [((a 200), .inr (21, [.int 1, .ref (a 201), .ref (a 202), .ref (a 203), .ref (a 204), .ref (a 205), .ref (a 206), .int 0, .int 0, .int 0, .int 0, .ref (a 208), .ref (a 209), .ref (a 210), .ref (a 211), .ref (a 212), .int 4, .int 12, .int (-1), .int 0, .ref (g 200), .ref (a 213), .int 0, .int 97, .ref (a 214), .ref (a 215), .ref (a 207), .null, .int 0]))]) [1] rfl
          have hDc : va_D (fun q => z0 ≤ q) [((a 200), .inr (21, [.int 1, .ref (a 201), .ref (a 202), .ref (a 203), .ref (a 204), .ref (a 205), .ref (a 206), .int 0, .int 0, .int 0, .int 0, .ref (a 208), .ref (a 209), .ref (a 210), .ref (a 211), .ref (a 212), .int 4, .int 12, .int (-1), .int 0, .ref (g 200), .ref (a 213), .int 0, .int 97, .ref (a 214), .ref (a 215), .ref (a 207), .null, .int 0]))] := (hD.to hAz).pick (ws' := [((a 200), .inr (21, [.int 1, .ref (a 201), .ref (a 202), .ref (a 203), .ref (a 204), .ref (a 205), .ref (a 206), .int 0, .int 0, .int 0, .int 0, .ref (a 208), .ref (a 209), .ref (a 210), .ref (a 211), .ref (a 212), .int 4, .int 12, .int (-1), .int 0, .ref (g 200), .ref (a 213), .int 0, .int 97, .ref (a 214), .ref (a 215), .ref (a 207), .null, .int 0]))]) [1] (by decide) rfl
          have hFc := va_free (wc := [((a 200), .inr (21, [.int 1, .ref (a 201), .ref (a 202), .ref (a 203), .ref (a 204), .ref (a 205), .ref (a 206), .int 0, .int 0, .int 0, .int 0, .ref (a 208), .ref (a 209), .ref (a 210), .ref (a 211), .ref (a 212), .int 4, .int 12, .int (-1), .int 0, .ref (g 200), .ref (a 213), .int 0, .int 97, .ref (a 214), .ref (a 215), .ref (a 207), .null, .int 0]))]) hD hS hA [1] rfl
          refine va_calli (va_runV (As := []) (rest := []) ⟨hx, hb, hml, hown, ht⟩ (k_X15_thrown_v2 l D g z0 _ a) (cwV 0 ht (gV w_772 w_774 w_775 w_334 w_773) rfl rfl rfl (by decide +kernel) (le2 rfl rfl)) ⟨PP.blind, va_recv hK.1 hP (ci := 21) (q0 := 1) rfl rfl, PP.mk' hK hZ hz hAz hS hPc hDc⟩ rfl rfl hl.1 rfl (lv_room (Nat.le_of_ble_eq_true rfl)) dL_law_2071 (le2 rfl rfl)) hS (fun q _ h => hFc q h) hFc (fun r u t H locs ht1 hvm hw hB hz1 hk1 hS => ?_)
          obtain ⟨rfl, hw⟩ := hw
          obtain ⟨hP1, hD1⟩ := hB
          rw [ht1] at hP1
          obtain ⟨hP, hD⟩ := va_join (wr := [(o1, .inl (g 1, 1, .inr (.inl (fun _ => 0))))]) (w1 := [((a 200), .inr (21, [.int 1, .ref (a 201), .ref (a 202), .ref (a 203), .ref (a 204), .ref (a 205), .ref (a 206), .int 0, .int 0, .int 0, .int 0, .ref (a 208), .ref (a 209), .ref (a 210), .ref (a 211), .ref (a 212), .int 4, .int 12, .int (-1), .int 0, .ref (g 200), .ref (a 213), .int 0, .int 97, .ref (a 214), .ref (a 215), .ref (a 207), .null, .int 0]))]) hP hD [1] [0] rfl rfl (by decide) (by decide) hk1 hFc hP1 hD1
          have hP : va_P D vwCl [(o1, .inl (g 1, 1, .inr (.inl (fun _ => 0)))), ((a 200), .inr (21, [.int 1, .ref (a 201), .ref (a 202), .ref (a 203), .ref (a 204), .ref (a 205), .ref (a 206), .int 0, .int 0, .int 0, .int 0, .ref (a 208), .ref (a 209), .ref (a 210), .ref (a 211), .ref (a 212), .int 4, .int 12, .int (-1), .int 0, .ref (g 200), .ref (a 213), .int 0, .int 97, .ref (a 214), .ref (a 215), .ref (a 207), .null, .int 0]))] H := hP
          have hD : va_D (va_A [] s.heap.size) [(o1, .inl (g 1, 1, .inr (.inl (fun _ => 0)))), ((a 200), .inr (21, [.int 1, .ref (a 201), .ref (a 202), .ref (a 203), .ref (a 204), .ref (a 205), .ref (a 206), .int 0, .int 0, .int 0, .int 0, .ref (a 208), .ref (a 209), .ref (a 210), .ref (a 211), .ref (a 212), .int 4, .int 12, .int (-1), .int 0, .ref (g 200), .ref (a 213), .int 0, .int 97, .ref (a 214), .ref (a 215), .ref (a 207), .null, .int 0]))] := hD
          refine lv_iload hx hb dL_law_2074 (lv_at hl 1 rfl) ?_
          refine lv_icmp_eq (tgt := 2081) hx hb dL_law_2076 (by decide) (fun c_27 => ?_) (fun c_27 => ?_)
          · refine lv_iload hx hb dL_law_2081 (lv_at hl 1 rfl) ?_
            refine lv_if_ne (tgt := 2098) hx hb dL_law_2083 (by decide) (fun c_28 => ?_) (fun c_28 => ?_)
            · refine lv_goto (tgt := 4264) hx hb dL_law_2098 (by decide) ?_
              refine W.widen (k := 200 + 300) (n := 8000 + 2000) (Nat.le_of_ble_eq_true rfl) (Nat.le_of_ble_eq_true rfl) ?_
              exact kk _ _ _ hS (lv_sub hl [7, 2] rfl)
            · exact absurd c_28 (by decide)
          · exact absurd c_27 (by decide)
        · obtain ⟨c_29, c_30, c_31⟩ := hw
          exact absurd (Int.le_trans (lo_nle c_23) (up_nlt c_30)) (by decide)
        · obtain ⟨c_32, c_33, c_34, c_35⟩ := hw
          exact absurd (Int.le_trans (lo_nle c_23) (up_nlt c_33)) (by decide)
      · obtain ⟨rfl, rfl, rfl, rfl, hw⟩ := hw
        rcases hw with hw | hw
        · obtain ⟨c_36, c_37, c_38, c_39⟩ := hw
          exact absurd (Int.le_trans (lo_nle c_23) (up_nlt c_37)) (by decide)
        · obtain ⟨c_40, c_41, c_42, c_43⟩ := hw
          exact absurd (Int.le_trans (lo_nle c_23) (up_nlt c_41)) (by decide)
    · obtain ⟨c_44, c_45, c_46⟩ := hw
      obtain ⟨hP1, hD1⟩ := hB
      rw [ht1] at hP1
      obtain ⟨hP, hD⟩ := va_join (wr := [((a 200), f_m a g)]) (w1 := [(o1, .inl (g 1, 1, .inr (.inl (fun _ => 0))))]) hP hD [3, 0, 1] [2] rfl rfl (by decide) (by decide) hk1 hFc hP1 hD1
      have hP : va_P D vwCl [((a 200), f_m a g), (o1, .inl (g 1, 1, .inr (.inl (fun _ => 0))))] H := hP
      have hD : va_D (va_A [] s.heap.size) [((a 200), f_m a g), (o1, .inl (g 1, 1, .inr (.inl (fun _ => 0))))] := hD
      refine lv_istore (lv' := [(6, .int 1), (0, .ref b), (1, .ref (a 0)), (2, .ref (a 200)), (3, .ref o1), (4, .ref o2), (5, .int 0)]) hx hb dL_law_2050 hl (by decide) rfl (fun ls hl => ?_)
      refine lv_aload_n hx hb dL_law_2052 rfl (lv_at hl 3 rfl) ?_
      refine lv_aload_n hx hb dL_law_2053 rfl (lv_at hl 1 rfl) ?_
      refine lv_iload hx hb dL_law_2054 (lv_at hl 6 rfl) ?_
      refine lv_iconst (v := 1) hx hb dL_law_2056 (by decide) ?_
      refine lv_iadd hx hb dL_law_2057 ?_
      refine r_topi (v := 1) (by decide) ?_
      refine va_sld hx hb hX hbl hbA hS (by unfold vp_in; decide) dL_law_2058 ?_
      refine r_topi (v := xs 1) (congrArg xs (by decide)) ?_
      refine lv_aload_n hx hb dL_law_2059 rfl (lv_at hl 1 rfl) ?_
      refine lv_iload hx hb dL_law_2060 (lv_at hl 6 rfl) ?_
      refine lv_iconst (v := 2) hx hb dL_law_2062 (by decide) ?_
      refine lv_iadd hx hb dL_law_2063 ?_
      refine r_topi (v := 2) (by decide) ?_
      refine va_sld hx hb hX hbl hbA hS (by unfold vp_in; decide) dL_law_2064 ?_
      refine r_topi (v := xs 2) (congrArg xs (by decide)) ?_
      have hPc : va_P D vwCl [((a 200), f_m a g)] _ := hP.sub (ws' := [((a 200), f_m a g)]) [0] rfl
      have hDc : va_D (fun q => z0 ≤ q) [((a 200), f_m a g)] := (hD.to hAz).pick (ws' := [((a 200), f_m a g)]) [0] (by decide) rfl
      have hFc := va_free (wc := [((a 200), f_m a g)]) hD hS hA [0] rfl
      refine va_calli (va_runV (As := [.int (xs 1), .int (xs 2)]) (rest := []) ⟨hx, hb, hml, hown, ht⟩ (k_X15_setRing l D g z0 _ a (xs 1) (xs 2)) (cwV 2 ht (gV w_1268 w_1270 w_1271 w_334 w_1269) rfl rfl rfl (by decide +kernel) (le2 rfl rfl)) ⟨PP.blind, va_recv hK.1 hP (ci := 21) (q0 := 0) rfl rfl, PP.mk' hK hZ hz hAz hS hPc hDc⟩ rfl rfl hl.1 rfl (lv_room (Nat.le_of_ble_eq_true rfl)) dL_law_2065 (le2 rfl rfl)) hS (fun q _ h => hFc q h) hFc (fun r u t H locs ht1 hvm hw hB hz1 hk1 hS => ?_)
      obtain ⟨u0, u1, u2⟩ := u
      rcases hw with hw | hw
      · obtain ⟨rfl, rfl, rfl, rfl, hw⟩ := hw
        rcases hw with hw | hw | hw | hw
        · have c_47 := hw
          exact absurd c_47 c_44
        · obtain ⟨c_48, c_49⟩ := hw
          exact absurd (Int.le_trans (lo_lt c_49) (up_le c_45)) (by decide)
        · obtain ⟨c_50, c_51, c_52⟩ := hw
          obtain ⟨hP1, hD1⟩ := hB
          rw [ht1] at hP1
          obtain ⟨hP, hD⟩ := va_join (wr := [(o1, .inl (g 1, 1, .inr (.inl (fun _ => 0))))]) (w1 := [((a 200), .inr (21, [.int 1, .ref (a 201), .ref (a 202), .ref (a 203), .ref (a 204), .ref (a 205), .ref (a 206), .int 0, .int 0, .int 0, .int 0, .ref (a 208), .ref (a 209), .ref (a 210), .ref (a 211), .ref (a 212), .int 4, .int 12, .int (-1), .int 0, .ref (g 200), .ref (a 213), .int 0, .int 97, .ref (a 214), .ref (a 215), .ref (a 207), .null, .int 0]))]) hP hD [0] [1] rfl rfl (by decide) (by decide) hk1 hFc hP1 hD1
          have hP : va_P D vwCl [(o1, .inl (g 1, 1, .inr (.inl (fun _ => 0)))), ((a 200), .inr (21, [.int 1, .ref (a 201), .ref (a 202), .ref (a 203), .ref (a 204), .ref (a 205), .ref (a 206), .int 0, .int 0, .int 0, .int 0, .ref (a 208), .ref (a 209), .ref (a 210), .ref (a 211), .ref (a 212), .int 4, .int 12, .int (-1), .int 0, .ref (g 200), .ref (a 213), .int 0, .int 97, .ref (a 214), .ref (a 215), .ref (a 207), .null, .int 0]))] H := hP
          have hD : va_D (va_A [] s.heap.size) [(o1, .inl (g 1, 1, .inr (.inl (fun _ => 0)))), ((a 200), .inr (21, [.int 1, .ref (a 201), .ref (a 202), .ref (a 203), .ref (a 204), .ref (a 205), .ref (a 206), .int 0, .int 0, .int 0, .int 0, .ref (a 208), .ref (a 209), .ref (a 210), .ref (a 211), .ref (a 212), .int 4, .int 12, .int (-1), .int 0, .ref (g 200), .ref (a 213), .int 0, .int 97, .ref (a 214), .ref (a 215), .ref (a 207), .null, .int 0]))] := hD
          refine lv_istore (lv' := [(7, .int 0), (6, .int 1), (0, .ref b), (1, .ref (a 0)), (2, .ref (a 200)), (3, .ref o1), (4, .ref o2), (5, .int 0)]) hx hb dL_law_2068 hl (by decide) rfl (fun ls hl => ?_)
          refine lv_aload_n hx hb dL_law_2070 rfl (lv_at hl 4 rfl) ?_
          have hPc : va_P D vwCl [((a 200), .inr (21, [.int 1, .ref (a 201), .ref (a 202), .ref (a 203), .ref (a 204), .ref (a 205), .ref (a 206), .int 0, .int 0, .int 0, .int 0, .ref (a 208), .ref (a 209), .ref (a 210), .ref (a 211), .ref (a 212), .int 4, .int 12, .int (-1), .int 0, .ref (g 200), .ref (a 213), .int 0, .int 97, .ref (a 214), .ref (a 215), .ref (a 207), .null, .int 0]))] _ := hP.sub (ws' := [((a 200), .inr (21, [.int 1, .ref (a 201), .ref (a 202), .ref (a 203), .ref (a 204), .ref (a 205), .ref (a 206), .int 0, .int 0, .int 0, .int 0, .ref (a 208), .ref (a 209), .ref (a 210), .ref (a 211), .ref (a 212), .int 4, .int 12, .int (-1), .int 0, .ref (g 200), .ref (a 213), .int 0, .int 97, .ref (a 214), .ref (a 215), .ref (a 207), .null, .int 0]))]) [1] rfl
          have hDc : va_D (fun q => z0 ≤ q) [((a 200), .inr (21, [.int 1, .ref (a 201), .ref (a 202), .ref (a 203), .ref (a 204), .ref (a 205), .ref (a 206), .int 0, .int 0, .int 0, .int 0, .ref (a 208), .ref (a 209), .ref (a 210), .ref (a 211), .ref (a 212), .int 4, .int 12, .int (-1), .int 0, .ref (g 200), .ref (a 213), .int 0, .int 97, .ref (a 214), .ref (a 215), .ref (a 207), .null, .int 0]))] := (hD.to hAz).pick (ws' := [((a 200), .inr (21, [.int 1, .ref (a 201), .ref (a 202), .ref (a 203), .ref (a 204), .ref (a 205), .ref (a 206), .int 0, .int 0, .int 0, .int 0, .ref (a 208), .ref (a 209), .ref (a 210), .ref (a 211), .ref (a 212), .int 4, .int 12, .int (-1), .int 0, .ref (g 200), .ref (a 213), .int 0, .int 97, .ref (a 214), .ref (a 215), .ref (a 207), .null, .int 0]))]) [1] (by decide) rfl
          have hFc := va_free (wc := [((a 200), .inr (21, [.int 1, .ref (a 201), .ref (a 202), .ref (a 203), .ref (a 204), .ref (a 205), .ref (a 206), .int 0, .int 0, .int 0, .int 0, .ref (a 208), .ref (a 209), .ref (a 210), .ref (a 211), .ref (a 212), .int 4, .int 12, .int (-1), .int 0, .ref (g 200), .ref (a 213), .int 0, .int 97, .ref (a 214), .ref (a 215), .ref (a 207), .null, .int 0]))]) hD hS hA [1] rfl
          refine va_calli (va_runV (As := []) (rest := []) ⟨hx, hb, hml, hown, ht⟩ (k_X15_thrown_v2 l D g z0 _ a) (cwV 0 ht (gV w_772 w_774 w_775 w_334 w_773) rfl rfl rfl (by decide +kernel) (le2 rfl rfl)) ⟨PP.blind, va_recv hK.1 hP (ci := 21) (q0 := 1) rfl rfl, PP.mk' hK hZ hz hAz hS hPc hDc⟩ rfl rfl hl.1 rfl (lv_room (Nat.le_of_ble_eq_true rfl)) dL_law_2071 (le2 rfl rfl)) hS (fun q _ h => hFc q h) hFc (fun r u t H locs ht1 hvm hw hB hz1 hk1 hS => ?_)
          obtain ⟨rfl, hw⟩ := hw
          obtain ⟨hP1, hD1⟩ := hB
          rw [ht1] at hP1
          obtain ⟨hP, hD⟩ := va_join (wr := [(o1, .inl (g 1, 1, .inr (.inl (fun _ => 0))))]) (w1 := [((a 200), .inr (21, [.int 1, .ref (a 201), .ref (a 202), .ref (a 203), .ref (a 204), .ref (a 205), .ref (a 206), .int 0, .int 0, .int 0, .int 0, .ref (a 208), .ref (a 209), .ref (a 210), .ref (a 211), .ref (a 212), .int 4, .int 12, .int (-1), .int 0, .ref (g 200), .ref (a 213), .int 0, .int 97, .ref (a 214), .ref (a 215), .ref (a 207), .null, .int 0]))]) hP hD [1] [0] rfl rfl (by decide) (by decide) hk1 hFc hP1 hD1
          have hP : va_P D vwCl [(o1, .inl (g 1, 1, .inr (.inl (fun _ => 0)))), ((a 200), .inr (21, [.int 1, .ref (a 201), .ref (a 202), .ref (a 203), .ref (a 204), .ref (a 205), .ref (a 206), .int 0, .int 0, .int 0, .int 0, .ref (a 208), .ref (a 209), .ref (a 210), .ref (a 211), .ref (a 212), .int 4, .int 12, .int (-1), .int 0, .ref (g 200), .ref (a 213), .int 0, .int 97, .ref (a 214), .ref (a 215), .ref (a 207), .null, .int 0]))] H := hP
          have hD : va_D (va_A [] s.heap.size) [(o1, .inl (g 1, 1, .inr (.inl (fun _ => 0)))), ((a 200), .inr (21, [.int 1, .ref (a 201), .ref (a 202), .ref (a 203), .ref (a 204), .ref (a 205), .ref (a 206), .int 0, .int 0, .int 0, .int 0, .ref (a 208), .ref (a 209), .ref (a 210), .ref (a 211), .ref (a 212), .int 4, .int 12, .int (-1), .int 0, .ref (g 200), .ref (a 213), .int 0, .int 97, .ref (a 214), .ref (a 215), .ref (a 207), .null, .int 0]))] := hD
          refine lv_iload hx hb dL_law_2074 (lv_at hl 1 rfl) ?_
          refine lv_icmp_eq (tgt := 2081) hx hb dL_law_2076 (by decide) (fun c_53 => ?_) (fun c_53 => ?_)
          · refine lv_iload hx hb dL_law_2081 (lv_at hl 1 rfl) ?_
            refine lv_if_ne (tgt := 2098) hx hb dL_law_2083 (by decide) (fun c_54 => ?_) (fun c_54 => ?_)
            · refine lv_goto (tgt := 4264) hx hb dL_law_2098 (by decide) ?_
              refine W.widen (k := 200 + 300) (n := 8000 + 2000) (Nat.le_of_ble_eq_true rfl) (Nat.le_of_ble_eq_true rfl) ?_
              exact kk _ _ _ hS (lv_sub hl [7, 2] rfl)
            · exact absurd c_54 (by decide)
          · exact absurd c_53 (by decide)
        · obtain ⟨c_55, c_56, c_57, c_58⟩ := hw
          exact absurd c_46 c_57
      · obtain ⟨rfl, rfl, rfl, rfl, hw⟩ := hw
        rcases hw with hw | hw
        · obtain ⟨c_59, c_60, c_61, c_62⟩ := hw
          exact absurd c_46 c_61
        · obtain ⟨c_63, c_64, c_65, c_66⟩ := hw
          exact absurd c_46 c_65
    · obtain ⟨c_67, c_68, c_69, c_70⟩ := hw
      obtain ⟨hP1, hD1⟩ := hB
      rw [ht1] at hP1
      obtain ⟨hP, hD⟩ := va_join (wr := [((a 200), f_m a g)]) (w1 := [(o1, .inl (g 1, 1, .inr (.inl (fun _ => 0))))]) hP hD [3, 0, 1] [2] rfl rfl (by decide) (by decide) hk1 hFc hP1 hD1
      have hP : va_P D vwCl [((a 200), f_m a g), (o1, .inl (g 1, 1, .inr (.inl (fun _ => 0))))] H := hP
      have hD : va_D (va_A [] s.heap.size) [((a 200), f_m a g), (o1, .inl (g 1, 1, .inr (.inl (fun _ => 0))))] := hD
      refine lv_istore (lv' := [(6, .int 1), (0, .ref b), (1, .ref (a 0)), (2, .ref (a 200)), (3, .ref o1), (4, .ref o2), (5, .int 0)]) hx hb dL_law_2050 hl (by decide) rfl (fun ls hl => ?_)
      refine lv_aload_n hx hb dL_law_2052 rfl (lv_at hl 3 rfl) ?_
      refine lv_aload_n hx hb dL_law_2053 rfl (lv_at hl 1 rfl) ?_
      refine lv_iload hx hb dL_law_2054 (lv_at hl 6 rfl) ?_
      refine lv_iconst (v := 1) hx hb dL_law_2056 (by decide) ?_
      refine lv_iadd hx hb dL_law_2057 ?_
      refine r_topi (v := 1) (by decide) ?_
      refine va_sld hx hb hX hbl hbA hS (by unfold vp_in; decide) dL_law_2058 ?_
      refine r_topi (v := xs 1) (congrArg xs (by decide)) ?_
      refine lv_aload_n hx hb dL_law_2059 rfl (lv_at hl 1 rfl) ?_
      refine lv_iload hx hb dL_law_2060 (lv_at hl 6 rfl) ?_
      refine lv_iconst (v := 2) hx hb dL_law_2062 (by decide) ?_
      refine lv_iadd hx hb dL_law_2063 ?_
      refine r_topi (v := 2) (by decide) ?_
      refine va_sld hx hb hX hbl hbA hS (by unfold vp_in; decide) dL_law_2064 ?_
      refine r_topi (v := xs 2) (congrArg xs (by decide)) ?_
      have hPc : va_P D vwCl [((a 200), f_m a g)] _ := hP.sub (ws' := [((a 200), f_m a g)]) [0] rfl
      have hDc : va_D (fun q => z0 ≤ q) [((a 200), f_m a g)] := (hD.to hAz).pick (ws' := [((a 200), f_m a g)]) [0] (by decide) rfl
      have hFc := va_free (wc := [((a 200), f_m a g)]) hD hS hA [0] rfl
      refine va_calli (va_runV (As := [.int (xs 1), .int (xs 2)]) (rest := []) ⟨hx, hb, hml, hown, ht⟩ (k_X15_setRing l D g z0 _ a (xs 1) (xs 2)) (cwV 2 ht (gV w_1268 w_1270 w_1271 w_334 w_1269) rfl rfl rfl (by decide +kernel) (le2 rfl rfl)) ⟨PP.blind, va_recv hK.1 hP (ci := 21) (q0 := 0) rfl rfl, PP.mk' hK hZ hz hAz hS hPc hDc⟩ rfl rfl hl.1 rfl (lv_room (Nat.le_of_ble_eq_true rfl)) dL_law_2065 (le2 rfl rfl)) hS (fun q _ h => hFc q h) hFc (fun r u t H locs ht1 hvm hw hB hz1 hk1 hS => ?_)
      obtain ⟨u0, u1, u2⟩ := u
      rcases hw with hw | hw
      · obtain ⟨rfl, rfl, rfl, rfl, hw⟩ := hw
        rcases hw with hw | hw | hw | hw
        · have c_71 := hw
          exact absurd c_71 c_67
        · obtain ⟨c_72, c_73⟩ := hw
          exact absurd (Int.le_trans (lo_lt c_73) (up_le c_68)) (by decide)
        · obtain ⟨c_74, c_75, c_76⟩ := hw
          exact absurd c_76 c_69
        · obtain ⟨c_77, c_78, c_79, c_80⟩ := hw
          obtain ⟨hP1, hD1⟩ := hB
          rw [ht1] at hP1
          obtain ⟨hP, hD⟩ := va_join (wr := [(o1, .inl (g 1, 1, .inr (.inl (fun _ => 0))))]) (w1 := [((a 200), .inr (21, [.int 1, .ref (a 201), .ref (a 202), .ref (a 203), .ref (a 204), .ref (a 205), .ref (a 206), .int 0, .int 0, .int 0, .int 0, .ref (a 208), .ref (a 209), .ref (a 210), .ref (a 211), .ref (a 212), .int 4, .int 12, .int (-1), .int 0, .ref (g 200), .ref (a 213), .int 0, .int 97, .ref (a 214), .ref (a 215), .ref (a 207), .null, .int 0]))]) hP hD [0] [1] rfl rfl (by decide) (by decide) hk1 hFc hP1 hD1
          have hP : va_P D vwCl [(o1, .inl (g 1, 1, .inr (.inl (fun _ => 0)))), ((a 200), .inr (21, [.int 1, .ref (a 201), .ref (a 202), .ref (a 203), .ref (a 204), .ref (a 205), .ref (a 206), .int 0, .int 0, .int 0, .int 0, .ref (a 208), .ref (a 209), .ref (a 210), .ref (a 211), .ref (a 212), .int 4, .int 12, .int (-1), .int 0, .ref (g 200), .ref (a 213), .int 0, .int 97, .ref (a 214), .ref (a 215), .ref (a 207), .null, .int 0]))] H := hP
          have hD : va_D (va_A [] s.heap.size) [(o1, .inl (g 1, 1, .inr (.inl (fun _ => 0)))), ((a 200), .inr (21, [.int 1, .ref (a 201), .ref (a 202), .ref (a 203), .ref (a 204), .ref (a 205), .ref (a 206), .int 0, .int 0, .int 0, .int 0, .ref (a 208), .ref (a 209), .ref (a 210), .ref (a 211), .ref (a 212), .int 4, .int 12, .int (-1), .int 0, .ref (g 200), .ref (a 213), .int 0, .int 97, .ref (a 214), .ref (a 215), .ref (a 207), .null, .int 0]))] := hD
          refine lv_istore (lv' := [(7, .int 0), (6, .int 1), (0, .ref b), (1, .ref (a 0)), (2, .ref (a 200)), (3, .ref o1), (4, .ref o2), (5, .int 0)]) hx hb dL_law_2068 hl (by decide) rfl (fun ls hl => ?_)
          refine lv_aload_n hx hb dL_law_2070 rfl (lv_at hl 4 rfl) ?_
          have hPc : va_P D vwCl [((a 200), .inr (21, [.int 1, .ref (a 201), .ref (a 202), .ref (a 203), .ref (a 204), .ref (a 205), .ref (a 206), .int 0, .int 0, .int 0, .int 0, .ref (a 208), .ref (a 209), .ref (a 210), .ref (a 211), .ref (a 212), .int 4, .int 12, .int (-1), .int 0, .ref (g 200), .ref (a 213), .int 0, .int 97, .ref (a 214), .ref (a 215), .ref (a 207), .null, .int 0]))] _ := hP.sub (ws' := [((a 200), .inr (21, [.int 1, .ref (a 201), .ref (a 202), .ref (a 203), .ref (a 204), .ref (a 205), .ref (a 206), .int 0, .int 0, .int 0, .int 0, .ref (a 208), .ref (a 209), .ref (a 210), .ref (a 211), .ref (a 212), .int 4, .int 12, .int (-1), .int 0, .ref (g 200), .ref (a 213), .int 0, .int 97, .ref (a 214), .ref (a 215), .ref (a 207), .null, .int 0]))]) [1] rfl
          have hDc : va_D (fun q => z0 ≤ q) [((a 200), .inr (21, [.int 1, .ref (a 201), .ref (a 202), .ref (a 203), .ref (a 204), .ref (a 205), .ref (a 206), .int 0, .int 0, .int 0, .int 0, .ref (a 208), .ref (a 209), .ref (a 210), .ref (a 211), .ref (a 212), .int 4, .int 12, .int (-1), .int 0, .ref (g 200), .ref (a 213), .int 0, .int 97, .ref (a 214), .ref (a 215), .ref (a 207), .null, .int 0]))] := (hD.to hAz).pick (ws' := [((a 200), .inr (21, [.int 1, .ref (a 201), .ref (a 202), .ref (a 203), .ref (a 204), .ref (a 205), .ref (a 206), .int 0, .int 0, .int 0, .int 0, .ref (a 208), .ref (a 209), .ref (a 210), .ref (a 211), .ref (a 212), .int 4, .int 12, .int (-1), .int 0, .ref (g 200), .ref (a 213), .int 0, .int 97, .ref (a 214), .ref (a 215), .ref (a 207), .null, .int 0]))]) [1] (by decide) rfl
          have hFc := va_free (wc := [((a 200), .inr (21, [.int 1, .ref (a 201), .ref (a 202), .ref (a 203), .ref (a 204), .ref (a 205), .ref (a 206), .int 0, .int 0, .int 0, .int 0, .ref (a 208), .ref (a 209), .ref (a 210), .ref (a 211), .ref (a 212), .int 4, .int 12, .int (-1), .int 0, .ref (g 200), .ref (a 213), .int 0, .int 97, .ref (a 214), .ref (a 215), .ref (a 207), .null, .int 0]))]) hD hS hA [1] rfl
          refine va_calli (va_runV (As := []) (rest := []) ⟨hx, hb, hml, hown, ht⟩ (k_X15_thrown_v2 l D g z0 _ a) (cwV 0 ht (gV w_772 w_774 w_775 w_334 w_773) rfl rfl rfl (by decide +kernel) (le2 rfl rfl)) ⟨PP.blind, va_recv hK.1 hP (ci := 21) (q0 := 1) rfl rfl, PP.mk' hK hZ hz hAz hS hPc hDc⟩ rfl rfl hl.1 rfl (lv_room (Nat.le_of_ble_eq_true rfl)) dL_law_2071 (le2 rfl rfl)) hS (fun q _ h => hFc q h) hFc (fun r u t H locs ht1 hvm hw hB hz1 hk1 hS => ?_)
          obtain ⟨rfl, hw⟩ := hw
          obtain ⟨hP1, hD1⟩ := hB
          rw [ht1] at hP1
          obtain ⟨hP, hD⟩ := va_join (wr := [(o1, .inl (g 1, 1, .inr (.inl (fun _ => 0))))]) (w1 := [((a 200), .inr (21, [.int 1, .ref (a 201), .ref (a 202), .ref (a 203), .ref (a 204), .ref (a 205), .ref (a 206), .int 0, .int 0, .int 0, .int 0, .ref (a 208), .ref (a 209), .ref (a 210), .ref (a 211), .ref (a 212), .int 4, .int 12, .int (-1), .int 0, .ref (g 200), .ref (a 213), .int 0, .int 97, .ref (a 214), .ref (a 215), .ref (a 207), .null, .int 0]))]) hP hD [1] [0] rfl rfl (by decide) (by decide) hk1 hFc hP1 hD1
          have hP : va_P D vwCl [(o1, .inl (g 1, 1, .inr (.inl (fun _ => 0)))), ((a 200), .inr (21, [.int 1, .ref (a 201), .ref (a 202), .ref (a 203), .ref (a 204), .ref (a 205), .ref (a 206), .int 0, .int 0, .int 0, .int 0, .ref (a 208), .ref (a 209), .ref (a 210), .ref (a 211), .ref (a 212), .int 4, .int 12, .int (-1), .int 0, .ref (g 200), .ref (a 213), .int 0, .int 97, .ref (a 214), .ref (a 215), .ref (a 207), .null, .int 0]))] H := hP
          have hD : va_D (va_A [] s.heap.size) [(o1, .inl (g 1, 1, .inr (.inl (fun _ => 0)))), ((a 200), .inr (21, [.int 1, .ref (a 201), .ref (a 202), .ref (a 203), .ref (a 204), .ref (a 205), .ref (a 206), .int 0, .int 0, .int 0, .int 0, .ref (a 208), .ref (a 209), .ref (a 210), .ref (a 211), .ref (a 212), .int 4, .int 12, .int (-1), .int 0, .ref (g 200), .ref (a 213), .int 0, .int 97, .ref (a 214), .ref (a 215), .ref (a 207), .null, .int 0]))] := hD
          refine lv_iload hx hb dL_law_2074 (lv_at hl 1 rfl) ?_
          refine lv_icmp_eq (tgt := 2081) hx hb dL_law_2076 (by decide) (fun c_81 => ?_) (fun c_81 => ?_)
          · refine lv_iload hx hb dL_law_2081 (lv_at hl 1 rfl) ?_
            refine lv_if_ne (tgt := 2098) hx hb dL_law_2083 (by decide) (fun c_82 => ?_) (fun c_82 => ?_)
            · refine lv_goto (tgt := 4264) hx hb dL_law_2098 (by decide) ?_
              refine W.widen (k := 200 + 300) (n := 8000 + 2000) (Nat.le_of_ble_eq_true rfl) (Nat.le_of_ble_eq_true rfl) ?_
              exact kk _ _ _ hS (lv_sub hl [7, 2] rfl)
            · exact absurd c_82 (by decide)
          · exact absurd c_81 (by decide)
      · obtain ⟨rfl, rfl, rfl, rfl, hw⟩ := hw
        rcases hw with hw | hw
        · obtain ⟨c_83, c_84, c_85, c_86⟩ := hw
          exact absurd (Int32.not_le.mp c_70) c_86
        · obtain ⟨c_87, c_88, c_89, c_90⟩ := hw
          exact absurd (Int32.not_le.mp c_70) c_90
  · obtain ⟨rfl, rfl, hw⟩ := hw
    obtain ⟨c_91, c_92, c_93, c_94⟩ := hw
    obtain ⟨hP1, hD1⟩ := hB
    rw [ht1] at hP1
    obtain ⟨hP, hD⟩ := va_join (wr := [((a 200), f_m a g)]) (w1 := [(o1, .inl (g 1, 1, .inr (.inl (fun _ => ((oGo (stp (xs 1) (xs 2)) (rM (xs 1)) 1 1).toInt64)))))]) hP hD [3, 0, 1] [2] rfl rfl (by decide) (by decide) hk1 hFc hP1 hD1
    have hP : va_P D vwCl [((a 200), f_m a g), (o1, .inl (g 1, 1, .inr (.inl (fun _ => ((oGo (stp (xs 1) (xs 2)) (rM (xs 1)) 1 1).toInt64)))))] H := hP
    have hD : va_D (va_A [] s.heap.size) [((a 200), f_m a g), (o1, .inl (g 1, 1, .inr (.inl (fun _ => ((oGo (stp (xs 1) (xs 2)) (rM (xs 1)) 1 1).toInt64)))))] := hD
    refine lv_istore (lv' := [(6, .int 0), (0, .ref b), (1, .ref (a 0)), (2, .ref (a 200)), (3, .ref o1), (4, .ref o2), (5, .int 0)]) hx hb dL_law_2050 hl (by decide) rfl (fun ls hl => ?_)
    refine lv_aload_n hx hb dL_law_2052 rfl (lv_at hl 3 rfl) ?_
    refine lv_aload_n hx hb dL_law_2053 rfl (lv_at hl 1 rfl) ?_
    refine lv_iload hx hb dL_law_2054 (lv_at hl 6 rfl) ?_
    refine lv_iconst (v := 1) hx hb dL_law_2056 (by decide) ?_
    refine lv_iadd hx hb dL_law_2057 ?_
    refine r_topi (v := 1) (by decide) ?_
    refine va_sld hx hb hX hbl hbA hS (by unfold vp_in; decide) dL_law_2058 ?_
    refine r_topi (v := xs 1) (congrArg xs (by decide)) ?_
    refine lv_aload_n hx hb dL_law_2059 rfl (lv_at hl 1 rfl) ?_
    refine lv_iload hx hb dL_law_2060 (lv_at hl 6 rfl) ?_
    refine lv_iconst (v := 2) hx hb dL_law_2062 (by decide) ?_
    refine lv_iadd hx hb dL_law_2063 ?_
    refine r_topi (v := 2) (by decide) ?_
    refine va_sld hx hb hX hbl hbA hS (by unfold vp_in; decide) dL_law_2064 ?_
    refine r_topi (v := xs 2) (congrArg xs (by decide)) ?_
    have hPc : va_P D vwCl [((a 200), f_m a g)] _ := hP.sub (ws' := [((a 200), f_m a g)]) [0] rfl
    have hDc : va_D (fun q => z0 ≤ q) [((a 200), f_m a g)] := (hD.to hAz).pick (ws' := [((a 200), f_m a g)]) [0] (by decide) rfl
    have hFc := va_free (wc := [((a 200), f_m a g)]) hD hS hA [0] rfl
    refine va_calli (va_runV (As := [.int (xs 1), .int (xs 2)]) (rest := []) ⟨hx, hb, hml, hown, ht⟩ (k_X15_setRing l D g z0 _ a (xs 1) (xs 2)) (cwV 2 ht (gV w_1268 w_1270 w_1271 w_334 w_1269) rfl rfl rfl (by decide +kernel) (le2 rfl rfl)) ⟨PP.blind, va_recv hK.1 hP (ci := 21) (q0 := 0) rfl rfl, PP.mk' hK hZ hz hAz hS hPc hDc⟩ rfl rfl hl.1 rfl (lv_room (Nat.le_of_ble_eq_true rfl)) dL_law_2065 (le2 rfl rfl)) hS (fun q _ h => hFc q h) hFc (fun r u t H locs ht1 hvm hw hB hz1 hk1 hS => ?_)
    obtain ⟨u0, u1, u2⟩ := u
    rcases hw with hw | hw
    · obtain ⟨rfl, rfl, rfl, rfl, hw⟩ := hw
      rcases hw with hw | hw | hw | hw
      · have c_95 := hw
        exact absurd c_95 c_91
      · obtain ⟨c_96, c_97⟩ := hw
        exact absurd (Int.le_trans (lo_lt c_97) (up_le c_92)) (by decide)
      · obtain ⟨c_98, c_99, c_100⟩ := hw
        exact absurd c_100 c_93
      · obtain ⟨c_101, c_102, c_103, c_104⟩ := hw
        exact absurd c_104 (Int32.not_lt.mpr c_94)
    · obtain ⟨rfl, rfl, rfl, rfl, hw⟩ := hw
      rcases hw with hw | hw
      · obtain ⟨c_105, c_106, c_107, c_108⟩ := hw
        obtain ⟨hP1, hD1⟩ := hB
        rw [ht1] at hP1
        obtain ⟨hP, hD⟩ := va_join (wr := [(o1, .inl (g 1, 1, .inr (.inl (fun _ => ((oGo (stp (xs 1) (xs 2)) (rM (xs 1)) 1 1).toInt64)))))]) (w1 := [((a 200), .inr (21, [.int 0, .ref (a 201), .ref (a 202), .ref (a 203), .ref (a 204), .ref (a 205), .ref (a 206), .int 0, .int 0, .int 0, .int 0, .ref (a 208), .ref (a 209), .ref (a 210), .ref (a 211), .ref (a 212), .int (xs 1), .int (xs 2), .int (-1), .int 0, .ref (g 200), .ref (a 213), .int 0, .int 97, .ref (a 214), .ref (a 215), .ref (a 207), .null, .int 0]))]) hP hD [0] [1] rfl rfl (by decide) (by decide) hk1 hFc hP1 hD1
        have hP : va_P D vwCl [(o1, .inl (g 1, 1, .inr (.inl (fun _ => ((oGo (stp (xs 1) (xs 2)) (rM (xs 1)) 1 1).toInt64))))), ((a 200), .inr (21, [.int 0, .ref (a 201), .ref (a 202), .ref (a 203), .ref (a 204), .ref (a 205), .ref (a 206), .int 0, .int 0, .int 0, .int 0, .ref (a 208), .ref (a 209), .ref (a 210), .ref (a 211), .ref (a 212), .int (xs 1), .int (xs 2), .int (-1), .int 0, .ref (g 200), .ref (a 213), .int 0, .int 97, .ref (a 214), .ref (a 215), .ref (a 207), .null, .int 0]))] H := hP
        have hD : va_D (va_A [] s.heap.size) [(o1, .inl (g 1, 1, .inr (.inl (fun _ => ((oGo (stp (xs 1) (xs 2)) (rM (xs 1)) 1 1).toInt64))))), ((a 200), .inr (21, [.int 0, .ref (a 201), .ref (a 202), .ref (a 203), .ref (a 204), .ref (a 205), .ref (a 206), .int 0, .int 0, .int 0, .int 0, .ref (a 208), .ref (a 209), .ref (a 210), .ref (a 211), .ref (a 212), .int (xs 1), .int (xs 2), .int (-1), .int 0, .ref (g 200), .ref (a 213), .int 0, .int 97, .ref (a 214), .ref (a 215), .ref (a 207), .null, .int 0]))] := hD
        refine lv_istore (lv' := [(7, .int (oGo (stp (xs 1) (xs 2)) (rM (xs 1)) 1 1)), (6, .int 0), (0, .ref b), (1, .ref (a 0)), (2, .ref (a 200)), (3, .ref o1), (4, .ref o2), (5, .int 0)]) hx hb dL_law_2068 hl (by decide) rfl (fun ls hl => ?_)
        refine lv_aload_n hx hb dL_law_2070 rfl (lv_at hl 4 rfl) ?_
        have hPc : va_P D vwCl [((a 200), .inr (21, [.int 0, .ref (a 201), .ref (a 202), .ref (a 203), .ref (a 204), .ref (a 205), .ref (a 206), .int 0, .int 0, .int 0, .int 0, .ref (a 208), .ref (a 209), .ref (a 210), .ref (a 211), .ref (a 212), .int (xs 1), .int (xs 2), .int (-1), .int 0, .ref (g 200), .ref (a 213), .int 0, .int 97, .ref (a 214), .ref (a 215), .ref (a 207), .null, .int 0]))] _ := hP.sub (ws' := [((a 200), .inr (21, [.int 0, .ref (a 201), .ref (a 202), .ref (a 203), .ref (a 204), .ref (a 205), .ref (a 206), .int 0, .int 0, .int 0, .int 0, .ref (a 208), .ref (a 209), .ref (a 210), .ref (a 211), .ref (a 212), .int (xs 1), .int (xs 2), .int (-1), .int 0, .ref (g 200), .ref (a 213), .int 0, .int 97, .ref (a 214), .ref (a 215), .ref (a 207), .null, .int 0]))]) [1] rfl
        have hDc : va_D (fun q => z0 ≤ q) [((a 200), .inr (21, [.int 0, .ref (a 201), .ref (a 202), .ref (a 203), .ref (a 204), .ref (a 205), .ref (a 206), .int 0, .int 0, .int 0, .int 0, .ref (a 208), .ref (a 209), .ref (a 210), .ref (a 211), .ref (a 212), .int (xs 1), .int (xs 2), .int (-1), .int 0, .ref (g 200), .ref (a 213), .int 0, .int 97, .ref (a 214), .ref (a 215), .ref (a 207), .null, .int 0]))] := (hD.to hAz).pick (ws' := [((a 200), .inr (21, [.int 0, .ref (a 201), .ref (a 202), .ref (a 203), .ref (a 204), .ref (a 205), .ref (a 206), .int 0, .int 0, .int 0, .int 0, .ref (a 208), .ref (a 209), .ref (a 210), .ref (a 211), .ref (a 212), .int (xs 1), .int (xs 2), .int (-1), .int 0, .ref (g 200), .ref (a 213), .int 0, .int 97, .ref (a 214), .ref (a 215), .ref (a 207), .null, .int 0]))]) [1] (by decide) rfl
        have hFc := va_free (wc := [((a 200), .inr (21, [.int 0, .ref (a 201), .ref (a 202), .ref (a 203), .ref (a 204), .ref (a 205), .ref (a 206), .int 0, .int 0, .int 0, .int 0, .ref (a 208), .ref (a 209), .ref (a 210), .ref (a 211), .ref (a 212), .int (xs 1), .int (xs 2), .int (-1), .int 0, .ref (g 200), .ref (a 213), .int 0, .int 97, .ref (a 214), .ref (a 215), .ref (a 207), .null, .int 0]))]) hD hS hA [1] rfl
        refine va_calli (va_runV (As := []) (rest := []) ⟨hx, hb, hml, hown, ht⟩ (k_X15_thrown_v4 l D g z0 _ a (xs 1) (xs 2)) (cwV 0 ht (gV w_772 w_774 w_775 w_334 w_773) rfl rfl rfl (by decide +kernel) (le2 rfl rfl)) ⟨PP.blind, va_recv hK.1 hP (ci := 21) (q0 := 1) rfl rfl, PP.mk' hK hZ hz hAz hS hPc hDc⟩ rfl rfl hl.1 rfl (lv_room (Nat.le_of_ble_eq_true rfl)) dL_law_2071 (le2 rfl rfl)) hS (fun q _ h => hFc q h) hFc (fun r u t H locs ht1 hvm hw hB hz1 hk1 hS => ?_)
        obtain ⟨rfl, hw⟩ := hw
        obtain ⟨hP1, hD1⟩ := hB
        rw [ht1] at hP1
        obtain ⟨hP, hD⟩ := va_join (wr := [(o1, .inl (g 1, 1, .inr (.inl (fun _ => ((oGo (stp (xs 1) (xs 2)) (rM (xs 1)) 1 1).toInt64)))))]) (w1 := [((a 200), .inr (21, [.int 0, .ref (a 201), .ref (a 202), .ref (a 203), .ref (a 204), .ref (a 205), .ref (a 206), .int 0, .int 0, .int 0, .int 0, .ref (a 208), .ref (a 209), .ref (a 210), .ref (a 211), .ref (a 212), .int (xs 1), .int (xs 2), .int (-1), .int 0, .ref (g 200), .ref (a 213), .int 0, .int 97, .ref (a 214), .ref (a 215), .ref (a 207), .null, .int 0]))]) hP hD [1] [0] rfl rfl (by decide) (by decide) hk1 hFc hP1 hD1
        have hP : va_P D vwCl [(o1, .inl (g 1, 1, .inr (.inl (fun _ => ((oGo (stp (xs 1) (xs 2)) (rM (xs 1)) 1 1).toInt64))))), ((a 200), .inr (21, [.int 0, .ref (a 201), .ref (a 202), .ref (a 203), .ref (a 204), .ref (a 205), .ref (a 206), .int 0, .int 0, .int 0, .int 0, .ref (a 208), .ref (a 209), .ref (a 210), .ref (a 211), .ref (a 212), .int (xs 1), .int (xs 2), .int (-1), .int 0, .ref (g 200), .ref (a 213), .int 0, .int 97, .ref (a 214), .ref (a 215), .ref (a 207), .null, .int 0]))] H := hP
        have hD : va_D (va_A [] s.heap.size) [(o1, .inl (g 1, 1, .inr (.inl (fun _ => ((oGo (stp (xs 1) (xs 2)) (rM (xs 1)) 1 1).toInt64))))), ((a 200), .inr (21, [.int 0, .ref (a 201), .ref (a 202), .ref (a 203), .ref (a 204), .ref (a 205), .ref (a 206), .int 0, .int 0, .int 0, .int 0, .ref (a 208), .ref (a 209), .ref (a 210), .ref (a 211), .ref (a 212), .int (xs 1), .int (xs 2), .int (-1), .int 0, .ref (g 200), .ref (a 213), .int 0, .int 97, .ref (a 214), .ref (a 215), .ref (a 207), .null, .int 0]))] := hD
        refine lv_iload hx hb dL_law_2074 (lv_at hl 1 rfl) ?_
        refine lv_icmp_eq (tgt := 2081) hx hb dL_law_2076 (by decide) (fun c_109 => ?_) (fun c_109 => ?_)
        · refine lv_iload hx hb dL_law_2081 (lv_at hl 1 rfl) ?_
          refine lv_if_ne (tgt := 2098) hx hb dL_law_2083 (by decide) (fun c_110 => ?_) (fun c_110 => ?_)
          · exact absurd c_110 (by decide)
          · refine lv_aload_n hx hb dL_law_2086 rfl (lv_at hl 5 rfl) ?_
            refine lv_iconst (v := 0) hx hb dL_law_2087 (by decide) ?_
            refine va_lald hx hb hK.1 hP 0 1 rfl rfl (by unfold vp_in; decide) dL_law_2088 ?_
            refine r_topl (v := (oGo (stp (xs 1) (xs 2)) (rM (xs 1)) 1 1).toInt64) rfl ?_
            refine lv_iload hx hb dL_law_2089 (lv_at hl 0 rfl) ?_
            refine lv_i2l (v := (oGo (stp (xs 1) (xs 2)) (rM (xs 1)) 1 1).toInt64) hx hb dL_law_2091 rfl ?_
            refine W.lcmp hx hb dL_law_2092 ?_
            refine r_topi (v := 0) (lg_self _) ?_
            refine lv_if_eq (tgt := 2098) hx hb dL_law_2093 (by decide) (fun c_111 => ?_) (fun c_111 => ?_)
            · refine lv_goto (tgt := 4264) hx hb dL_law_2098 (by decide) ?_
              refine W.widen (k := 200 + 300) (n := 8000 + 2000) (Nat.le_of_ble_eq_true rfl) (Nat.le_of_ble_eq_true rfl) ?_
              exact kk _ _ _ hS (lv_sub hl [7, 2] rfl)
            · exact absurd c_111 (by decide)
        · exact absurd c_109 (by decide)
      · obtain ⟨c_112, c_113, c_114, c_115⟩ := hw
        obtain ⟨hP1, hD1⟩ := hB
        rw [ht1] at hP1
        obtain ⟨hP, hD⟩ := va_join (wr := [(o1, .inl (g 1, 1, .inr (.inl (fun _ => ((oGo (stp (xs 1) (xs 2)) (rM (xs 1)) 1 1).toInt64)))))]) (w1 := [((a 200), .inr (21, [.int 0, .ref (a 201), .ref (a 202), .ref (a 203), .ref (a 204), .ref (a 205), .ref (a 206), .int 0, .int 0, .int 0, .int 0, .ref (a 208), .ref (a 209), .ref (a 210), .ref (a 211), .ref (a 212), .int (xs 1), .int (xs 2), .int (-1), .int 0, .ref (g 200), .ref (a 213), .int 0, .int 97, .ref (a 214), .ref (a 215), .ref (a 207), .null, .int 0]))]) hP hD [0] [1] rfl rfl (by decide) (by decide) hk1 hFc hP1 hD1
        have hP : va_P D vwCl [(o1, .inl (g 1, 1, .inr (.inl (fun _ => ((oGo (stp (xs 1) (xs 2)) (rM (xs 1)) 1 1).toInt64))))), ((a 200), .inr (21, [.int 0, .ref (a 201), .ref (a 202), .ref (a 203), .ref (a 204), .ref (a 205), .ref (a 206), .int 0, .int 0, .int 0, .int 0, .ref (a 208), .ref (a 209), .ref (a 210), .ref (a 211), .ref (a 212), .int (xs 1), .int (xs 2), .int (-1), .int 0, .ref (g 200), .ref (a 213), .int 0, .int 97, .ref (a 214), .ref (a 215), .ref (a 207), .null, .int 0]))] H := hP
        have hD : va_D (va_A [] s.heap.size) [(o1, .inl (g 1, 1, .inr (.inl (fun _ => ((oGo (stp (xs 1) (xs 2)) (rM (xs 1)) 1 1).toInt64))))), ((a 200), .inr (21, [.int 0, .ref (a 201), .ref (a 202), .ref (a 203), .ref (a 204), .ref (a 205), .ref (a 206), .int 0, .int 0, .int 0, .int 0, .ref (a 208), .ref (a 209), .ref (a 210), .ref (a 211), .ref (a 212), .int (xs 1), .int (xs 2), .int (-1), .int 0, .ref (g 200), .ref (a 213), .int 0, .int 97, .ref (a 214), .ref (a 215), .ref (a 207), .null, .int 0]))] := hD
        refine lv_istore (lv' := [(7, .int (oGo (stp (xs 1) (xs 2)) (rM (xs 1)) 1 1)), (6, .int 0), (0, .ref b), (1, .ref (a 0)), (2, .ref (a 200)), (3, .ref o1), (4, .ref o2), (5, .int 0)]) hx hb dL_law_2068 hl (by decide) rfl (fun ls hl => ?_)
        refine lv_aload_n hx hb dL_law_2070 rfl (lv_at hl 4 rfl) ?_
        have hPc : va_P D vwCl [((a 200), .inr (21, [.int 0, .ref (a 201), .ref (a 202), .ref (a 203), .ref (a 204), .ref (a 205), .ref (a 206), .int 0, .int 0, .int 0, .int 0, .ref (a 208), .ref (a 209), .ref (a 210), .ref (a 211), .ref (a 212), .int (xs 1), .int (xs 2), .int (-1), .int 0, .ref (g 200), .ref (a 213), .int 0, .int 97, .ref (a 214), .ref (a 215), .ref (a 207), .null, .int 0]))] _ := hP.sub (ws' := [((a 200), .inr (21, [.int 0, .ref (a 201), .ref (a 202), .ref (a 203), .ref (a 204), .ref (a 205), .ref (a 206), .int 0, .int 0, .int 0, .int 0, .ref (a 208), .ref (a 209), .ref (a 210), .ref (a 211), .ref (a 212), .int (xs 1), .int (xs 2), .int (-1), .int 0, .ref (g 200), .ref (a 213), .int 0, .int 97, .ref (a 214), .ref (a 215), .ref (a 207), .null, .int 0]))]) [1] rfl
        have hDc : va_D (fun q => z0 ≤ q) [((a 200), .inr (21, [.int 0, .ref (a 201), .ref (a 202), .ref (a 203), .ref (a 204), .ref (a 205), .ref (a 206), .int 0, .int 0, .int 0, .int 0, .ref (a 208), .ref (a 209), .ref (a 210), .ref (a 211), .ref (a 212), .int (xs 1), .int (xs 2), .int (-1), .int 0, .ref (g 200), .ref (a 213), .int 0, .int 97, .ref (a 214), .ref (a 215), .ref (a 207), .null, .int 0]))] := (hD.to hAz).pick (ws' := [((a 200), .inr (21, [.int 0, .ref (a 201), .ref (a 202), .ref (a 203), .ref (a 204), .ref (a 205), .ref (a 206), .int 0, .int 0, .int 0, .int 0, .ref (a 208), .ref (a 209), .ref (a 210), .ref (a 211), .ref (a 212), .int (xs 1), .int (xs 2), .int (-1), .int 0, .ref (g 200), .ref (a 213), .int 0, .int 97, .ref (a 214), .ref (a 215), .ref (a 207), .null, .int 0]))]) [1] (by decide) rfl
        have hFc := va_free (wc := [((a 200), .inr (21, [.int 0, .ref (a 201), .ref (a 202), .ref (a 203), .ref (a 204), .ref (a 205), .ref (a 206), .int 0, .int 0, .int 0, .int 0, .ref (a 208), .ref (a 209), .ref (a 210), .ref (a 211), .ref (a 212), .int (xs 1), .int (xs 2), .int (-1), .int 0, .ref (g 200), .ref (a 213), .int 0, .int 97, .ref (a 214), .ref (a 215), .ref (a 207), .null, .int 0]))]) hD hS hA [1] rfl
        refine va_calli (va_runV (As := []) (rest := []) ⟨hx, hb, hml, hown, ht⟩ (k_X15_thrown_v4 l D g z0 _ a (xs 1) (xs 2)) (cwV 0 ht (gV w_772 w_774 w_775 w_334 w_773) rfl rfl rfl (by decide +kernel) (le2 rfl rfl)) ⟨PP.blind, va_recv hK.1 hP (ci := 21) (q0 := 1) rfl rfl, PP.mk' hK hZ hz hAz hS hPc hDc⟩ rfl rfl hl.1 rfl (lv_room (Nat.le_of_ble_eq_true rfl)) dL_law_2071 (le2 rfl rfl)) hS (fun q _ h => hFc q h) hFc (fun r u t H locs ht1 hvm hw hB hz1 hk1 hS => ?_)
        obtain ⟨rfl, hw⟩ := hw
        obtain ⟨hP1, hD1⟩ := hB
        rw [ht1] at hP1
        obtain ⟨hP, hD⟩ := va_join (wr := [(o1, .inl (g 1, 1, .inr (.inl (fun _ => ((oGo (stp (xs 1) (xs 2)) (rM (xs 1)) 1 1).toInt64)))))]) (w1 := [((a 200), .inr (21, [.int 0, .ref (a 201), .ref (a 202), .ref (a 203), .ref (a 204), .ref (a 205), .ref (a 206), .int 0, .int 0, .int 0, .int 0, .ref (a 208), .ref (a 209), .ref (a 210), .ref (a 211), .ref (a 212), .int (xs 1), .int (xs 2), .int (-1), .int 0, .ref (g 200), .ref (a 213), .int 0, .int 97, .ref (a 214), .ref (a 215), .ref (a 207), .null, .int 0]))]) hP hD [1] [0] rfl rfl (by decide) (by decide) hk1 hFc hP1 hD1
        have hP : va_P D vwCl [(o1, .inl (g 1, 1, .inr (.inl (fun _ => ((oGo (stp (xs 1) (xs 2)) (rM (xs 1)) 1 1).toInt64))))), ((a 200), .inr (21, [.int 0, .ref (a 201), .ref (a 202), .ref (a 203), .ref (a 204), .ref (a 205), .ref (a 206), .int 0, .int 0, .int 0, .int 0, .ref (a 208), .ref (a 209), .ref (a 210), .ref (a 211), .ref (a 212), .int (xs 1), .int (xs 2), .int (-1), .int 0, .ref (g 200), .ref (a 213), .int 0, .int 97, .ref (a 214), .ref (a 215), .ref (a 207), .null, .int 0]))] H := hP
        have hD : va_D (va_A [] s.heap.size) [(o1, .inl (g 1, 1, .inr (.inl (fun _ => ((oGo (stp (xs 1) (xs 2)) (rM (xs 1)) 1 1).toInt64))))), ((a 200), .inr (21, [.int 0, .ref (a 201), .ref (a 202), .ref (a 203), .ref (a 204), .ref (a 205), .ref (a 206), .int 0, .int 0, .int 0, .int 0, .ref (a 208), .ref (a 209), .ref (a 210), .ref (a 211), .ref (a 212), .int (xs 1), .int (xs 2), .int (-1), .int 0, .ref (g 200), .ref (a 213), .int 0, .int 97, .ref (a 214), .ref (a 215), .ref (a 207), .null, .int 0]))] := hD
        refine lv_iload hx hb dL_law_2074 (lv_at hl 1 rfl) ?_
        refine lv_icmp_eq (tgt := 2081) hx hb dL_law_2076 (by decide) (fun c_116 => ?_) (fun c_116 => ?_)
        · refine lv_iload hx hb dL_law_2081 (lv_at hl 1 rfl) ?_
          refine lv_if_ne (tgt := 2098) hx hb dL_law_2083 (by decide) (fun c_117 => ?_) (fun c_117 => ?_)
          · exact absurd c_117 (by decide)
          · refine lv_aload_n hx hb dL_law_2086 rfl (lv_at hl 5 rfl) ?_
            refine lv_iconst (v := 0) hx hb dL_law_2087 (by decide) ?_
            refine va_lald hx hb hK.1 hP 0 1 rfl rfl (by unfold vp_in; decide) dL_law_2088 ?_
            refine r_topl (v := (oGo (stp (xs 1) (xs 2)) (rM (xs 1)) 1 1).toInt64) rfl ?_
            refine lv_iload hx hb dL_law_2089 (lv_at hl 0 rfl) ?_
            refine lv_i2l (v := (oGo (stp (xs 1) (xs 2)) (rM (xs 1)) 1 1).toInt64) hx hb dL_law_2091 rfl ?_
            refine W.lcmp hx hb dL_law_2092 ?_
            refine r_topi (v := 0) (lg_self _) ?_
            refine lv_if_eq (tgt := 2098) hx hb dL_law_2093 (by decide) (fun c_118 => ?_) (fun c_118 => ?_)
            · refine lv_goto (tgt := 4264) hx hb dL_law_2098 (by decide) ?_
              refine W.widen (k := 200 + 300) (n := 8000 + 2000) (Nat.le_of_ble_eq_true rfl) (Nat.le_of_ble_eq_true rfl) ?_
              exact kk _ _ _ hS (lv_sub hl [7, 2] rfl)
            · exact absurd c_118 (by decide)
        · exact absurd c_116 (by decide)
