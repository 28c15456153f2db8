theorem w_210 : Cond.methodLink RX11 303 yX11_needNotSlow ∈ TG := tg (sg_7 _ (List.mem_of_getElem? (i := 6) (by decide +kernel))) (by decide +kernel)
theorem w_211 : Cond.code yX11_needNotSlow cX11_needNotSlow 2 none ∈ TG := tg (sg_7 _ (List.mem_of_getElem? (i := 9) (by decide +kernel))) (by decide +kernel)
theorem w_212 : Cond.instanceMethod yX11_needNotSlow ∈ TG := tg (sg_7 _ (List.mem_of_getElem? (i := 8) (by decide +kernel))) (by decide +kernel)
theorem w_213 : Cond.selects RX11 yX11_needNotSlow yX11_needNotSlow ∈ TG := tg (List.mem_append_left _ (List.mem_map.mpr ⟨(yX11_needNotSlow, 11), List.mem_of_getElem? (i := 54) (by decide +kernel), rfl⟩)) (by decide +kernel)
theorem w_214 : Cond.fieldLink RX5 19 "StuckatBench$Memory" "sort" "C" ∈ TG := tg (sg_3 _ (List.mem_of_getElem? (i := 1) (by decide +kernel))) (by decide +kernel)
theorem w_215 : Cond.fieldLink RX5 36 "StuckatBench$Memory" "typed" "I" ∈ TG := tg (sg_2 _ (List.mem_of_getElem? (i := 239) (by decide +kernel))) (by decide +kernel)
theorem w_216 : Cond.methodLink RX11 488 yX5_isMarchRight ∈ TG := tg (sg_4 _ (List.mem_of_getElem? (i := 89) (by decide +kernel))) (by decide +kernel)
theorem w_217 : Cond.code yX5_isMarchRight cX5_isMarchRight 1 (some .boolean) ∈ TG := tg (sg_4 _ (List.mem_of_getElem? (i := 92) (by decide +kernel))) (by decide +kernel)
theorem w_218 : Cond.instanceMethod yX5_isMarchRight ∈ TG := tg (sg_4 _ (List.mem_of_getElem? (i := 90) (by decide +kernel))) (by decide +kernel)
theorem w_219 : Cond.selects RX5 yX5_isMarchRight yX5_isMarchRight ∈ TG := tg (sg_4 _ (List.mem_of_getElem? (i := 91) (by decide +kernel))) (by decide +kernel)
theorem w_220 : Cond.initialized RX5 ∈ TG := tg (sg_1 _ (List.mem_of_getElem? (i := 11) (by decide +kernel))) (by decide +kernel)
theorem w_221 : Cond.methodLink RX11 550 yX11_doEnginesAgree ∈ TG := tg (sg_4 _ (List.mem_of_getElem? (i := 127) (by decide +kernel))) (by decide +kernel)
theorem w_222 : Cond.code yX11_doEnginesAgree cX11_doEnginesAgree 2 (some .boolean) ∈ TG := tg (sg_4 _ (List.mem_of_getElem? (i := 130) (by decide +kernel))) (by decide +kernel)
theorem w_223 : Cond.instanceMethod yX11_doEnginesAgree ∈ TG := tg (sg_4 _ (List.mem_of_getElem? (i := 129) (by decide +kernel))) (by decide +kernel)
theorem w_224 : Cond.selects RX11 yX11_doEnginesAgree yX11_doEnginesAgree ∈ TG := tg (List.mem_append_left _ (List.mem_map.mpr ⟨(yX11_doEnginesAgree, 11), List.mem_of_getElem? (i := 22) (by decide +kernel), rfl⟩)) (by decide +kernel)
theorem w_225 : Cond.methodLink RX11 553 yX11_areLikesFoundAlike ∈ TG := tg (sg_4 _ (List.mem_of_getElem? (i := 223) (by decide +kernel))) (by decide +kernel)
theorem w_226 : Cond.code yX11_areLikesFoundAlike cX11_areLikesFoundAlike 2 (some .boolean) ∈ TG := tg (sg_4 _ (List.mem_of_getElem? (i := 226) (by decide +kernel))) (by decide +kernel)
theorem w_227 : Cond.instanceMethod yX11_areLikesFoundAlike ∈ TG := tg (sg_4 _ (List.mem_of_getElem? (i := 225) (by decide +kernel))) (by decide +kernel)
theorem w_228 : Cond.selects RX11 yX11_areLikesFoundAlike yX11_areLikesFoundAlike ∈ TG := tg (List.mem_append_left _ (List.mem_map.mpr ⟨(yX11_areLikesFoundAlike, 11), List.mem_of_getElem? (i := 31) (by decide +kernel), rfl⟩)) (by decide +kernel)
theorem w_229 : Cond.methodLink RX11 556 yX11_isNoImpossibleFound ∈ TG := tg (sg_4 _ (List.mem_of_getElem? (i := 227) (by decide +kernel))) (by decide +kernel)
theorem w_230 : Cond.code yX11_isNoImpossibleFound cX11_isNoImpossibleFound 2 (some .boolean) ∈ TG := tg (sg_4 _ (List.mem_of_getElem? (i := 230) (by decide +kernel))) (by decide +kernel)
theorem w_231 : Cond.instanceMethod yX11_isNoImpossibleFound ∈ TG := tg (sg_4 _ (List.mem_of_getElem? (i := 229) (by decide +kernel))) (by decide +kernel)
theorem w_232 : Cond.selects RX11 yX11_isNoImpossibleFound yX11_isNoImpossibleFound ∈ TG := tg (List.mem_append_left _ (List.mem_map.mpr ⟨(yX11_isNoImpossibleFound, 11), List.mem_of_getElem? (i := 32) (by decide +kernel), rfl⟩)) (by decide +kernel)
theorem w_233 : Cond.fieldLink RX11 429 "StuckatBench$Chip" "broken" "I" ∈ TG := tg (sg_2 _ (List.mem_of_getElem? (i := 199) (by decide +kernel))) (by decide +kernel)
theorem w_234 : Cond.methodLink RX11 559 yX11_isChipTold ∈ TG := tg (sg_5 _ (List.mem_of_getElem? (i := 13) (by decide +kernel))) (by decide +kernel)
theorem w_235 : Cond.code yX11_isChipTold cX11_isChipTold 1 (some .boolean) ∈ TG := tg (sg_5 _ (List.mem_of_getElem? (i := 16) (by decide +kernel))) (by decide +kernel)
theorem w_236 : Cond.instanceMethod yX11_isChipTold ∈ TG := tg (sg_5 _ (List.mem_of_getElem? (i := 15) (by decide +kernel))) (by decide +kernel)
theorem w_237 : Cond.selects RX11 yX11_isChipTold yX11_isChipTold ∈ TG := tg (List.mem_append_left _ (List.mem_map.mpr ⟨(yX11_isChipTold, 11), List.mem_of_getElem? (i := 34) (by decide +kernel), rfl⟩)) (by decide +kernel)
theorem w_238 : Cond.methodLink RX11 538 yX11_needRoomForCores ∈ TG := tg (sg_9 _ (List.mem_of_getElem? (i := 17) (by decide +kernel))) (by decide +kernel)
theorem w_239 : Cond.code yX11_needRoomForCores cX11_needRoomForCores 3 none ∈ TG := tg (sg_9 _ (List.mem_of_getElem? (i := 20) (by decide +kernel))) (by decide +kernel)
theorem w_240 : Cond.instanceMethod yX11_needRoomForCores ∈ TG := tg (sg_9 _ (List.mem_of_getElem? (i := 19) (by decide +kernel))) (by decide +kernel)
theorem w_241 : Cond.selects RX11 yX11_needRoomForCores yX11_needRoomForCores ∈ TG := tg (List.mem_append_left _ (List.mem_map.mpr ⟨(yX11_needRoomForCores, 11), List.mem_of_getElem? (i := 70) (by decide +kernel), rfl⟩)) (by decide +kernel)
theorem w_242 : Cond.methodLink RX5 23 yX5_isElement ∈ TG := tg (sg_4 _ (List.mem_of_getElem? (i := 93) (by decide +kernel))) (by decide +kernel)
theorem w_243 : Cond.code yX5_isElement cX5_isElement 1 (some .boolean) ∈ TG := tg (sg_4 _ (List.mem_of_getElem? (i := 95) (by decide +kernel))) (by decide +kernel)
theorem w_244 : Cond.static yX5_isElement ∈ TG := tg (sg_4 _ (List.mem_of_getElem? (i := 94) (by decide +kernel))) (by decide +kernel)
theorem w_245 : Cond.methodLink RX5 27 yX5_isWrite ∈ TG := tg (sg_4 _ (List.mem_of_getElem? (i := 112) (by decide +kernel))) (by decide +kernel)
theorem w_246 : Cond.code yX5_isWrite cX5_isWrite 1 (some .boolean) ∈ TG := tg (sg_4 _ (List.mem_of_getElem? (i := 114) (by decide +kernel))) (by decide +kernel)
theorem w_247 : Cond.static yX5_isWrite ∈ TG := tg (sg_4 _ (List.mem_of_getElem? (i := 113) (by decide +kernel))) (by decide +kernel)
theorem w_248 : Cond.methodLink RX11 478 yX5_isSign ∈ TG := tg (sg_8 _ (List.mem_of_getElem? (i := 78) (by decide +kernel))) (by decide +kernel)
theorem w_249 : Cond.code yX5_isSign cX5_isSign 1 (some .boolean) ∈ TG := tg (sg_8 _ (List.mem_of_getElem? (i := 80) (by decide +kernel))) (by decide +kernel)
theorem w_250 : Cond.static yX5_isSign ∈ TG := tg (sg_8 _ (List.mem_of_getElem? (i := 79) (by decide +kernel))) (by decide +kernel)
theorem w_251 : Cond.fieldLink RX5 11 "StuckatBench$Memory" "signs" "[C" ∈ TG := tg (sg_2 _ (List.mem_of_getElem? (i := 237) (by decide +kernel))) (by decide +kernel)
theorem w_252 : Cond.methodLink RX11 485 yX5_type ∈ TG := tg (sg_8 _ (List.mem_of_getElem? (i := 81) (by decide +kernel))) (by decide +kernel)
theorem w_253 : Cond.code yX5_type cX5_type 2 (some .int) ∈ TG := tg (sg_8 _ (List.mem_of_getElem? (i := 84) (by decide +kernel))) (by decide +kernel)
theorem w_254 : Cond.instanceMethod yX5_type ∈ TG := tg (sg_8 _ (List.mem_of_getElem? (i := 82) (by decide +kernel))) (by decide +kernel)
theorem w_255 : Cond.selects RX5 yX5_type yX5_type ∈ TG := tg (sg_8 _ (List.mem_of_getElem? (i := 83) (by decide +kernel))) (by decide +kernel)
theorem w_256 : Cond.methodLink RX11 498 yX5_isKind ∈ TG := tg (sg_8 _ (List.mem_of_getElem? (i := 112) (by decide +kernel))) (by decide +kernel)
theorem w_257 : Cond.code yX5_isKind cX5_isKind 1 (some .boolean) ∈ TG := tg (sg_8 _ (List.mem_of_getElem? (i := 97) (by decide +kernel))) (by decide +kernel)
theorem w_258 : Cond.static yX5_isKind ∈ TG := tg (sg_8 _ (List.mem_of_getElem? (i := 96) (by decide +kernel))) (by decide +kernel)
theorem w_259 : Cond.methodLink RX5 30 yX5_isKind ∈ TG := tg (sg_8 _ (List.mem_of_getElem? (i := 95) (by decide +kernel))) (by decide +kernel)
theorem w_260 : Cond.methodLink RX5 33 yX5_isOfTwoCells ∈ TG := tg (sg_8 _ (List.mem_of_getElem? (i := 98) (by decide +kernel))) (by decide +kernel)
theorem w_261 : Cond.code yX5_isOfTwoCells cX5_isOfTwoCells 1 (some .boolean) ∈ TG := tg (sg_8 _ (List.mem_of_getElem? (i := 100) (by decide +kernel))) (by decide +kernel)
theorem w_262 : Cond.static yX5_isOfTwoCells ∈ TG := tg (sg_8 _ (List.mem_of_getElem? (i := 99) (by decide +kernel))) (by decide +kernel)
theorem w_263 : Cond.methodLink RX11 491 yX5_isFault ∈ TG := tg (sg_8 _ (List.mem_of_getElem? (i := 92) (by decide +kernel))) (by decide +kernel)
theorem w_264 : Cond.code yX5_isFault cX5_isFault 5 (some .boolean) ∈ TG := tg (sg_8 _ (List.mem_of_getElem? (i := 94) (by decide +kernel))) (by decide +kernel)
theorem w_265 : Cond.static yX5_isFault ∈ TG := tg (sg_8 _ (List.mem_of_getElem? (i := 93) (by decide +kernel))) (by decide +kernel)
theorem dX11_areLikesFoundAlike_0 : decode cX11_areLikesFoundAlike 0 = .ok (.iconst 0, 1) := by decide +kernel
theorem dX11_areLikesFoundAlike_1 : decode cX11_areLikesFoundAlike 1 = .ok (.istore_n 1, 1) := by decide +kernel
theorem dX11_areLikesFoundAlike_2 : decode cX11_areLikesFoundAlike 2 = .ok (.iload_n 1, 1) := by decide +kernel
theorem dX11_areLikesFoundAlike_3 : decode cX11_areLikesFoundAlike 3 = .ok (.aload_n 0, 1) := by decide +kernel
theorem dX11_areLikesFoundAlike_4 : decode cX11_areLikesFoundAlike 4 = .ok (.getfield 21, 3) := by decide +kernel
theorem dX11_areLikesFoundAlike_7 : decode cX11_areLikesFoundAlike 7 = .ok (.getfield 111, 3) := by decide +kernel
theorem dX11_areLikesFoundAlike_10 : decode cX11_areLikesFoundAlike 10 = .ok (.if_icmp .ge 41, 3) := by decide +kernel
theorem dX11_areLikesFoundAlike_13 : decode cX11_areLikesFoundAlike 13 = .ok (.aload_n 0, 1) := by decide +kernel
theorem dX11_areLikesFoundAlike_14 : decode cX11_areLikesFoundAlike 14 = .ok (.getfield 37, 3) := by decide +kernel
theorem dX11_areLikesFoundAlike_17 : decode cX11_areLikesFoundAlike 17 = .ok (.getfield 280, 3) := by decide +kernel
theorem dX11_areLikesFoundAlike_20 : decode cX11_areLikesFoundAlike 20 = .ok (.iload_n 1, 1) := by decide +kernel
theorem dX11_areLikesFoundAlike_21 : decode cX11_areLikesFoundAlike 21 = .ok (.laload, 1) := by decide +kernel
theorem dX11_areLikesFoundAlike_22 : decode cX11_areLikesFoundAlike 22 = .ok (.aload_n 0, 1) := by decide +kernel
theorem dX11_areLikesFoundAlike_23 : decode cX11_areLikesFoundAlike 23 = .ok (.getfield 37, 3) := by decide +kernel
theorem dX11_areLikesFoundAlike_26 : decode cX11_areLikesFoundAlike 26 = .ok (.getfield 280, 3) := by decide +kernel
theorem dX11_areLikesFoundAlike_29 : decode cX11_areLikesFoundAlike 29 = .ok (.aload_n 0, 1) := by decide +kernel
theorem dX11_areLikesFoundAlike_30 : decode cX11_areLikesFoundAlike 30 = .ok (.getfield 21, 3) := by decide +kernel
theorem dX11_areLikesFoundAlike_33 : decode cX11_areLikesFoundAlike 33 = .ok (.getfield 222, 3) := by decide +kernel
theorem dX11_areLikesFoundAlike_36 : decode cX11_areLikesFoundAlike 36 = .ok (.iload_n 1, 1) := by decide +kernel
theorem dX11_areLikesFoundAlike_37 : decode cX11_areLikesFoundAlike 37 = .ok (.iaload, 1) := by decide +kernel
theorem dX11_areLikesFoundAlike_38 : decode cX11_areLikesFoundAlike 38 = .ok (.laload, 1) := by decide +kernel
theorem dX11_areLikesFoundAlike_39 : decode cX11_areLikesFoundAlike 39 = .ok (.lcmp, 1) := by decide +kernel
theorem dX11_areLikesFoundAlike_40 : decode cX11_areLikesFoundAlike 40 = .ok (.ifCond .eq 5, 3) := by decide +kernel
theorem dX11_areLikesFoundAlike_43 : decode cX11_areLikesFoundAlike 43 = .ok (.iconst 0, 1) := by decide +kernel
theorem dX11_areLikesFoundAlike_44 : decode cX11_areLikesFoundAlike 44 = .ok (.ireturn, 1) := by decide +kernel
theorem dX11_areLikesFoundAlike_45 : decode cX11_areLikesFoundAlike 45 = .ok (.iinc 1 1, 3) := by decide +kernel
theorem dX11_areLikesFoundAlike_48 : decode cX11_areLikesFoundAlike 48 = .ok (.goto (-46), 3) := by decide +kernel
theorem dX11_areLikesFoundAlike_51 : decode cX11_areLikesFoundAlike 51 = .ok (.iconst 1, 1) := by decide +kernel
theorem dX11_areLikesFoundAlike_52 : decode cX11_areLikesFoundAlike 52 = .ok (.ireturn, 1) := by decide +kernel
theorem dX11_doEnginesAgree_0 : decode cX11_doEnginesAgree 0 = .ok (.iconst 0, 1) := by decide +kernel
theorem dX11_doEnginesAgree_1 : decode cX11_doEnginesAgree 1 = .ok (.istore_n 1, 1) := by decide +kernel
theorem dX11_doEnginesAgree_2 : decode cX11_doEnginesAgree 2 = .ok (.iload_n 1, 1) := by decide +kernel
theorem dX11_doEnginesAgree_3 : decode cX11_doEnginesAgree 3 = .ok (.aload_n 0, 1) := by decide +kernel
theorem dX11_doEnginesAgree_4 : decode cX11_doEnginesAgree 4 = .ok (.getfield 28, 3) := by decide +kernel
theorem dX11_doEnginesAgree_7 : decode cX11_doEnginesAgree 7 = .ok (.getfield 103, 3) := by decide +kernel
theorem dX11_doEnginesAgree_10 : decode cX11_doEnginesAgree 10 = .ok (.if_icmp .ge 27, 3) := by decide +kernel
theorem dX11_doEnginesAgree_13 : decode cX11_doEnginesAgree 13 = .ok (.aload_n 0, 1) := by decide +kernel
theorem dX11_doEnginesAgree_14 : decode cX11_doEnginesAgree 14 = .ok (.iload_n 1, 1) := by decide +kernel
theorem dX11_doEnginesAgree_15 : decode cX11_doEnginesAgree 15 = .ok (.invokevirtual 259, 3) := by decide +kernel
theorem dX11_doEnginesAgree_18 : decode cX11_doEnginesAgree 18 = .ok (.ifCond .eq 13, 3) := by decide +kernel
theorem dX11_doEnginesAgree_21 : decode cX11_doEnginesAgree 21 = .ok (.aload_n 0, 1) := by decide +kernel
theorem dX11_doEnginesAgree_22 : decode cX11_doEnginesAgree 22 = .ok (.iload_n 1, 1) := by decide +kernel
theorem dX11_doEnginesAgree_23 : decode cX11_doEnginesAgree 23 = .ok (.invokevirtual 562, 3) := by decide +kernel
theorem dX11_doEnginesAgree_26 : decode cX11_doEnginesAgree 26 = .ok (.ifCond .ne 5, 3) := by decide +kernel
theorem dX11_doEnginesAgree_29 : decode cX11_doEnginesAgree 29 = .ok (.iconst 0, 1) := by decide +kernel
theorem dX11_doEnginesAgree_30 : decode cX11_doEnginesAgree 30 = .ok (.ireturn, 1) := by decide +kernel
theorem dX11_doEnginesAgree_31 : decode cX11_doEnginesAgree 31 = .ok (.iinc 1 1, 3) := by decide +kernel
theorem dX11_doEnginesAgree_34 : decode cX11_doEnginesAgree 34 = .ok (.goto (-32), 3) := by decide +kernel
theorem dX11_doEnginesAgree_37 : decode cX11_doEnginesAgree 37 = .ok (.iconst 1, 1) := by decide +kernel
theorem dX11_doEnginesAgree_38 : decode cX11_doEnginesAgree 38 = .ok (.ireturn, 1) := by decide +kernel
theorem dX11_input_0 : decode cX11_input 0 = .ok (.aload_n 0, 1) := by decide +kernel
theorem dX11_input_1 : decode cX11_input 1 = .ok (.iconst 0, 1) := by decide +kernel
theorem dX11_input_2 : decode cX11_input 2 = .ok (.invokevirtual 131, 3) := by decide +kernel
theorem dX11_input_5 : decode cX11_input 5 = .ok (.ireturn, 1) := by decide +kernel
theorem dX11_isChipTold_0 : decode cX11_isChipTold 0 = .ok (.aload_n 0, 1) := by decide +kernel
theorem dX11_isChipTold_1 : decode cX11_isChipTold 1 = .ok (.getfield 71, 3) := by decide +kernel
theorem dX11_isChipTold_4 : decode cX11_isChipTold 4 = .ok (.getfield 429, 3) := by decide +kernel
theorem dX11_isChipTold_7 : decode cX11_isChipTold 7 = .ok (.iconst 1, 1) := by decide +kernel
theorem dX11_isChipTold_8 : decode cX11_isChipTold 8 = .ok (.if_icmp .eq 5, 3) := by decide +kernel
theorem dX11_isChipTold_11 : decode cX11_isChipTold 11 = .ok (.iconst 1, 1) := by decide +kernel
theorem dX11_isChipTold_12 : decode cX11_isChipTold 12 = .ok (.ireturn, 1) := by decide +kernel
theorem dX11_isChipTold_13 : decode cX11_isChipTold 13 = .ok (.aload_n 0, 1) := by decide +kernel
theorem dX11_isChipTold_14 : decode cX11_isChipTold 14 = .ok (.getfield 71, 3) := by decide +kernel
theorem dX11_isChipTold_17 : decode cX11_isChipTold 17 = .ok (.invokevirtual 438, 3) := by decide +kernel
theorem dX11_isChipTold_20 : decode cX11_isChipTold 20 = .ok (.aload_n 0, 1) := by decide +kernel
theorem dX11_isChipTold_21 : decode cX11_isChipTold 21 = .ok (.getfield 71, 3) := by decide +kernel
theorem dX11_isChipTold_24 : decode cX11_isChipTold 24 = .ok (.invokevirtual 577, 3) := by decide +kernel
theorem dX11_isChipTold_27 : decode cX11_isChipTold 27 = .ok (.ifCond .eq 31, 3) := by decide +kernel
theorem dX11_isChipTold_30 : decode cX11_isChipTold 30 = .ok (.aload_n 0, 1) := by decide +kernel
theorem dX11_isChipTold_31 : decode cX11_isChipTold 31 = .ok (.getfield 71, 3) := by decide +kernel
theorem dX11_isChipTold_34 : decode cX11_isChipTold 34 = .ok (.getfield 580, 3) := by decide +kernel
theorem dX11_isChipTold_37 : decode cX11_isChipTold 37 = .ok (.aload_n 0, 1) := by decide +kernel
theorem dX11_isChipTold_38 : decode cX11_isChipTold 38 = .ok (.getfield 21, 3) := by decide +kernel
theorem dX11_isChipTold_41 : decode cX11_isChipTold 41 = .ok (.getfield 222, 3) := by decide +kernel
theorem dX11_isChipTold_44 : decode cX11_isChipTold 44 = .ok (.aload_n 0, 1) := by decide +kernel
theorem dX11_isChipTold_45 : decode cX11_isChipTold 45 = .ok (.getfield 71, 3) := by decide +kernel
theorem dX11_isChipTold_48 : decode cX11_isChipTold 48 = .ok (.getfield 583, 3) := by decide +kernel
theorem dX11_isChipTold_51 : decode cX11_isChipTold 51 = .ok (.iconst 0, 1) := by decide +kernel
theorem dX11_isChipTold_52 : decode cX11_isChipTold 52 = .ok (.iaload, 1) := by decide +kernel
theorem dX11_isChipTold_53 : decode cX11_isChipTold 53 = .ok (.iaload, 1) := by decide +kernel
theorem dX11_isChipTold_54 : decode cX11_isChipTold 54 = .ok (.iaload, 1) := by decide +kernel
theorem dX11_isChipTold_55 : decode cX11_isChipTold 55 = .ok (.ifCond .le 7, 3) := by decide +kernel
theorem dX11_isChipTold_58 : decode cX11_isChipTold 58 = .ok (.iconst 1, 1) := by decide +kernel
theorem dX11_isChipTold_59 : decode cX11_isChipTold 59 = .ok (.goto 4, 3) := by decide +kernel
theorem dX11_isChipTold_62 : decode cX11_isChipTold 62 = .ok (.iconst 0, 1) := by decide +kernel
theorem dX11_isChipTold_63 : decode cX11_isChipTold 63 = .ok (.ireturn, 1) := by decide +kernel
theorem dX11_isImpossible_0 : decode cX11_isImpossible 0 = .ok (.aload_n 0, 1) := by decide +kernel
theorem dX11_isImpossible_1 : decode cX11_isImpossible 1 = .ok (.iload_n 1, 1) := by decide +kernel
theorem dX11_isImpossible_2 : decode cX11_isImpossible 2 = .ok (.invokevirtual 303, 3) := by decide +kernel
theorem dX11_isImpossible_5 : decode cX11_isImpossible 5 = .ok (.aload_n 0, 1) := by decide +kernel
theorem dX11_isImpossible_6 : decode cX11_isImpossible 6 = .ok (.getfield 37, 3) := by decide +kernel
theorem dX11_isImpossible_9 : decode cX11_isImpossible 9 = .ok (.iload_n 1, 1) := by decide +kernel
theorem dX11_isImpossible_10 : decode cX11_isImpossible 10 = .ok (.invokevirtual 306, 3) := by decide +kernel
theorem dX11_isImpossible_13 : decode cX11_isImpossible 13 = .ok (.ifCond .ge 7, 3) := by decide +kernel
theorem dX11_isImpossible_16 : decode cX11_isImpossible 16 = .ok (.iconst 1, 1) := by decide +kernel
theorem dX11_isImpossible_17 : decode cX11_isImpossible 17 = .ok (.goto 4, 3) := by decide +kernel
theorem dX11_isImpossible_20 : decode cX11_isImpossible 20 = .ok (.iconst 0, 1) := by decide +kernel
theorem dX11_isImpossible_21 : decode cX11_isImpossible 21 = .ok (.ireturn, 1) := by decide +kernel
theorem dX11_isNoImpossibleFound_0 : decode cX11_isNoImpossibleFound 0 = .ok (.aload_n 0, 1) := by decide +kernel
theorem dX11_isNoImpossibleFound_1 : decode cX11_isNoImpossibleFound 1 = .ok (.getfield 37, 3) := by decide +kernel
theorem dX11_isNoImpossibleFound_4 : decode cX11_isNoImpossibleFound 4 = .ok (.invokevirtual 423, 3) := by decide +kernel
theorem dX11_isNoImpossibleFound_7 : decode cX11_isNoImpossibleFound 7 = .ok (.iconst 0, 1) := by decide +kernel
theorem dX11_isNoImpossibleFound_8 : decode cX11_isNoImpossibleFound 8 = .ok (.istore_n 1, 1) := by decide +kernel
theorem dX11_isNoImpossibleFound_9 : decode cX11_isNoImpossibleFound 9 = .ok (.iload_n 1, 1) := by decide +kernel
theorem dX11_isNoImpossibleFound_10 : decode cX11_isNoImpossibleFound 10 = .ok (.aload_n 0, 1) := by decide +kernel
theorem dX11_isNoImpossibleFound_11 : decode cX11_isNoImpossibleFound 11 = .ok (.getfield 21, 3) := by decide +kernel
theorem dX11_isNoImpossibleFound_14 : decode cX11_isNoImpossibleFound 14 = .ok (.getfield 111, 3) := by decide +kernel
theorem dX11_isNoImpossibleFound_17 : decode cX11_isNoImpossibleFound 17 = .ok (.if_icmp .ge 48, 3) := by decide +kernel
theorem dX11_isNoImpossibleFound_20 : decode cX11_isNoImpossibleFound 20 = .ok (.aload_n 0, 1) := by decide +kernel
theorem dX11_isNoImpossibleFound_21 : decode cX11_isNoImpossibleFound 21 = .ok (.getfield 21, 3) := by decide +kernel
theorem dX11_isNoImpossibleFound_24 : decode cX11_isNoImpossibleFound 24 = .ok (.iload_n 1, 1) := by decide +kernel
theorem dX11_isNoImpossibleFound_25 : decode cX11_isNoImpossibleFound 25 = .ok (.invokevirtual 294, 3) := by decide +kernel
theorem dX11_isNoImpossibleFound_28 : decode cX11_isNoImpossibleFound 28 = .ok (.ifCond .eq 31, 3) := by decide +kernel
theorem dX11_isNoImpossibleFound_31 : decode cX11_isNoImpossibleFound 31 = .ok (.aload_n 0, 1) := by decide +kernel
theorem dX11_isNoImpossibleFound_32 : decode cX11_isNoImpossibleFound 32 = .ok (.getfield 37, 3) := by decide +kernel
theorem dX11_isNoImpossibleFound_35 : decode cX11_isNoImpossibleFound 35 = .ok (.getfield 426, 3) := by decide +kernel
theorem dX11_isNoImpossibleFound_38 : decode cX11_isNoImpossibleFound 38 = .ok (.iload_n 1, 1) := by decide +kernel
theorem dX11_isNoImpossibleFound_39 : decode cX11_isNoImpossibleFound 39 = .ok (.iaload, 1) := by decide +kernel
theorem dX11_isNoImpossibleFound_40 : decode cX11_isNoImpossibleFound 40 = .ok (.ifCond .ne 19, 3) := by decide +kernel
theorem dX11_isNoImpossibleFound_43 : decode cX11_isNoImpossibleFound 43 = .ok (.aload_n 0, 1) := by decide +kernel
theorem dX11_isNoImpossibleFound_44 : decode cX11_isNoImpossibleFound 44 = .ok (.getfield 37, 3) := by decide +kernel
theorem dX11_isNoImpossibleFound_47 : decode cX11_isNoImpossibleFound 47 = .ok (.getfield 280, 3) := by decide +kernel
theorem dX11_isNoImpossibleFound_50 : decode cX11_isNoImpossibleFound 50 = .ok (.iload_n 1, 1) := by decide +kernel
theorem dX11_isNoImpossibleFound_51 : decode cX11_isNoImpossibleFound 51 = .ok (.laload, 1) := by decide +kernel
theorem dX11_isNoImpossibleFound_52 : decode cX11_isNoImpossibleFound 52 = .ok (.lconst 0, 1) := by decide +kernel
theorem dX11_isNoImpossibleFound_53 : decode cX11_isNoImpossibleFound 53 = .ok (.lcmp, 1) := by decide +kernel
theorem dX11_isNoImpossibleFound_54 : decode cX11_isNoImpossibleFound 54 = .ok (.ifCond .eq 5, 3) := by decide +kernel
theorem dX11_isNoImpossibleFound_57 : decode cX11_isNoImpossibleFound 57 = .ok (.iconst 0, 1) := by decide +kernel
theorem dX11_isNoImpossibleFound_58 : decode cX11_isNoImpossibleFound 58 = .ok (.ireturn, 1) := by decide +kernel
theorem dX11_isNoImpossibleFound_59 : decode cX11_isNoImpossibleFound 59 = .ok (.iinc 1 1, 3) := by decide +kernel
theorem dX11_isNoImpossibleFound_62 : decode cX11_isNoImpossibleFound 62 = .ok (.goto (-53), 3) := by decide +kernel
theorem dX11_isNoImpossibleFound_65 : decode cX11_isNoImpossibleFound 65 = .ok (.iconst 1, 1) := by decide +kernel
theorem dX11_isNoImpossibleFound_66 : decode cX11_isNoImpossibleFound 66 = .ok (.ireturn, 1) := by decide +kernel
theorem dX11_isRight_0 : decode cX11_isRight 0 = .ok (.aload_n 0, 1) := by decide +kernel
theorem dX11_isRight_1 : decode cX11_isRight 1 = .ok (.getfield 78, 3) := by decide +kernel
theorem dX11_isRight_4 : decode cX11_isRight 4 = .ok (.invokevirtual 488, 3) := by decide +kernel
theorem dX11_isRight_7 : decode cX11_isRight 7 = .ok (.ireturn, 1) := by decide +kernel
theorem dX11_isSound_0 : decode cX11_isSound 0 = .ok (.aload_n 0, 1) := by decide +kernel
theorem dX11_isSound_1 : decode cX11_isSound 1 = .ok (.getfield 37, 3) := by decide +kernel
theorem dX11_isSound_4 : decode cX11_isSound 4 = .ok (.aload_n 0, 1) := by decide +kernel
theorem dX11_isSound_5 : decode cX11_isSound 5 = .ok (.getfield 28, 3) := by decide +kernel
theorem dX11_isSound_8 : decode cX11_isSound 8 = .ok (.invokevirtual 276, 3) := by decide +kernel
theorem dX11_isSound_11 : decode cX11_isSound 11 = .ok (.aload_n 0, 1) := by decide +kernel
theorem dX11_isSound_12 : decode cX11_isSound 12 = .ok (.invokevirtual 550, 3) := by decide +kernel
theorem dX11_isSound_15 : decode cX11_isSound 15 = .ok (.ifCond .eq 28, 3) := by decide +kernel
theorem dX11_isSound_18 : decode cX11_isSound 18 = .ok (.aload_n 0, 1) := by decide +kernel
theorem dX11_isSound_19 : decode cX11_isSound 19 = .ok (.invokevirtual 553, 3) := by decide +kernel
theorem dX11_isSound_22 : decode cX11_isSound 22 = .ok (.ifCond .eq 21, 3) := by decide +kernel
theorem dX11_isSound_25 : decode cX11_isSound 25 = .ok (.aload_n 0, 1) := by decide +kernel
theorem dX11_isSound_26 : decode cX11_isSound 26 = .ok (.invokevirtual 556, 3) := by decide +kernel
theorem dX11_isSound_29 : decode cX11_isSound 29 = .ok (.ifCond .eq 14, 3) := by decide +kernel
theorem dX11_isSound_32 : decode cX11_isSound 32 = .ok (.aload_n 0, 1) := by decide +kernel
theorem dX11_isSound_33 : decode cX11_isSound 33 = .ok (.invokevirtual 559, 3) := by decide +kernel
theorem dX11_isSound_36 : decode cX11_isSound 36 = .ok (.ifCond .eq 7, 3) := by decide +kernel
theorem dX11_isSound_39 : decode cX11_isSound 39 = .ok (.iconst 1, 1) := by decide +kernel
theorem dX11_isSound_40 : decode cX11_isSound 40 = .ok (.goto 4, 3) := by decide +kernel
theorem dX11_isSound_43 : decode cX11_isSound 43 = .ok (.iconst 0, 1) := by decide +kernel
theorem dX11_isSound_44 : decode cX11_isSound 44 = .ok (.ireturn, 1) := by decide +kernel
theorem dX11_known_0 : decode cX11_known 0 = .ok (.aload_n 0, 1) := by decide +kernel
theorem dX11_known_1 : decode cX11_known 1 = .ok (.iload_n 1, 1) := by decide +kernel
theorem dX11_known_2 : decode cX11_known 2 = .ok (.invokevirtual 200, 3) := by decide +kernel
theorem dX11_known_5 : decode cX11_known 5 = .ok (.iload_n 2, 1) := by decide +kernel
theorem dX11_known_6 : decode cX11_known 6 = .ok (.ifCond .eq 15, 3) := by decide +kernel
theorem dX11_known_9 : decode cX11_known 9 = .ok (.aload_n 0, 1) := by decide +kernel
theorem dX11_known_10 : decode cX11_known 10 = .ok (.getfield 28, 3) := by decide +kernel
theorem dX11_known_13 : decode cX11_known 13 = .ok (.getfield 358, 3) := by decide +kernel
theorem dX11_known_16 : decode cX11_known 16 = .ok (.iload_n 1, 1) := by decide +kernel
theorem dX11_known_17 : decode cX11_known 17 = .ok (.iaload, 1) := by decide +kernel
theorem dX11_known_18 : decode cX11_known 18 = .ok (.goto 12, 3) := by decide +kernel
theorem dX11_known_21 : decode cX11_known 21 = .ok (.aload_n 0, 1) := by decide +kernel
theorem dX11_known_22 : decode cX11_known 22 = .ok (.getfield 28, 3) := by decide +kernel
theorem dX11_known_25 : decode cX11_known 25 = .ok (.getfield 264, 3) := by decide +kernel
theorem dX11_known_28 : decode cX11_known 28 = .ok (.iload_n 1, 1) := by decide +kernel
theorem dX11_known_29 : decode cX11_known 29 = .ok (.iaload, 1) := by decide +kernel
theorem dX11_known_30 : decode cX11_known 30 = .ok (.ireturn, 1) := by decide +kernel
theorem dX11_least_0 : decode cX11_least 0 = .ok (.aload_n 0, 1) := by decide +kernel
theorem dX11_least_1 : decode cX11_least 1 = .ok (.iload_n 1, 1) := by decide +kernel
theorem dX11_least_2 : decode cX11_least 2 = .ok (.iload_n 2, 1) := by decide +kernel
theorem dX11_least_3 : decode cX11_least 3 = .ok (.invokevirtual 538, 3) := by decide +kernel
theorem dX11_least_6 : decode cX11_least 6 = .ok (.aload_n 0, 1) := by decide +kernel
theorem dX11_least_7 : decode cX11_least 7 = .ok (.getfield 92, 3) := by decide +kernel
theorem dX11_least_10 : decode cX11_least 10 = .ok (.iload_n 1, 1) := by decide +kernel
theorem dX11_least_11 : decode cX11_least 11 = .ok (.iload_n 2, 1) := by decide +kernel
theorem dX11_least_12 : decode cX11_least 12 = .ok (.invokevirtual 541, 3) := by decide +kernel
theorem dX11_least_15 : decode cX11_least 15 = .ok (.ireturn, 1) := by decide +kernel
theorem dX11_lineOf_0 : decode cX11_lineOf 0 = .ok (.aload_n 0, 1) := by decide +kernel
theorem dX11_lineOf_1 : decode cX11_lineOf 1 = .ok (.iload_n 1, 1) := by decide +kernel
theorem dX11_lineOf_2 : decode cX11_lineOf 2 = .ok (.invokevirtual 107, 3) := by decide +kernel
theorem dX11_lineOf_5 : decode cX11_lineOf 5 = .ok (.aload_n 0, 1) := by decide +kernel
theorem dX11_lineOf_6 : decode cX11_lineOf 6 = .ok (.getfield 21, 3) := by decide +kernel
theorem dX11_lineOf_9 : decode cX11_lineOf 9 = .ok (.getfield 216, 3) := by decide +kernel
theorem dX11_lineOf_12 : decode cX11_lineOf 12 = .ok (.iload_n 1, 1) := by decide +kernel
theorem dX11_lineOf_13 : decode cX11_lineOf 13 = .ok (.iaload, 1) := by decide +kernel
theorem dX11_lineOf_14 : decode cX11_lineOf 14 = .ok (.ireturn, 1) := by decide +kernel
theorem dX11_make_0 : decode cX11_make 0 = .ok (.aload_n 0, 1) := by decide +kernel
theorem dX11_make_1 : decode cX11_make 1 = .ok (.iload_n 1, 1) := by decide +kernel
theorem dX11_make_2 : decode cX11_make 2 = .ok (.invokevirtual 303, 3) := by decide +kernel
theorem dX11_make_5 : decode cX11_make 5 = .ok (.aload_n 0, 1) := by decide +kernel
theorem dX11_make_6 : decode cX11_make 6 = .ok (.getfield 37, 3) := by decide +kernel
theorem dX11_make_9 : decode cX11_make 9 = .ok (.iload_n 1, 1) := by decide +kernel
theorem dX11_make_10 : decode cX11_make 10 = .ok (.invokevirtual 306, 3) := by decide +kernel
theorem dX11_make_13 : decode cX11_make 13 = .ok (.istore_n 2, 1) := by decide +kernel
theorem dX11_make_14 : decode cX11_make 14 = .ok (.iload_n 2, 1) := by decide +kernel
theorem dX11_make_15 : decode cX11_make 15 = .ok (.ifCond .ge 11, 3) := by decide +kernel
theorem dX11_make_18 : decode cX11_make 18 = .ok (.new 310, 3) := by decide +kernel
theorem dX11_make_21 : decode cX11_make 21 = .ok (.dup, 1) := by decide +kernel
theorem dX11_make_22 : decode cX11_make 22 = .ok (.invokespecial 312, 3) := by decide +kernel
theorem dX11_make_25 : decode cX11_make 25 = .ok (.athrow, 1) := by decide +kernel
theorem dX11_make_26 : decode cX11_make 26 = .ok (.aload_n 0, 1) := by decide +kernel
theorem dX11_make_27 : decode cX11_make 27 = .ok (.getfield 28, 3) := by decide +kernel
theorem dX11_make_30 : decode cX11_make 30 = .ok (.getfield 103, 3) := by decide +kernel
theorem dX11_make_33 : decode cX11_make 33 = .ok (.bipush 32, 2) := by decide +kernel
theorem dX11_make_35 : decode cX11_make 35 = .ok (.if_icmp .lt 11, 3) := by decide +kernel
theorem dX11_make_38 : decode cX11_make 38 = .ok (.new 141, 3) := by decide +kernel
theorem dX11_make_41 : decode cX11_make 41 = .ok (.dup, 1) := by decide +kernel
theorem dX11_make_42 : decode cX11_make 42 = .ok (.invokespecial 143, 3) := by decide +kernel
theorem dX11_make_45 : decode cX11_make 45 = .ok (.athrow, 1) := by decide +kernel
theorem dX11_make_46 : decode cX11_make 46 = .ok (.aload_n 0, 1) := by decide +kernel
theorem dX11_make_47 : decode cX11_make 47 = .ok (.getfield 37, 3) := by decide +kernel
theorem dX11_make_50 : decode cX11_make 50 = .ok (.iload_n 1, 1) := by decide +kernel
theorem dX11_make_51 : decode cX11_make 51 = .ok (.iload_n 2, 1) := by decide +kernel
theorem dX11_make_52 : decode cX11_make 52 = .ok (.invokevirtual 313, 3) := by decide +kernel
theorem dX11_make_55 : decode cX11_make 55 = .ok (.istore_n 3, 1) := by decide +kernel
theorem dX11_make_56 : decode cX11_make 56 = .ok (.iconst 0, 1) := by decide +kernel
theorem dX11_make_57 : decode cX11_make 57 = .ok (.istore 4, 2) := by decide +kernel
theorem dX11_make_59 : decode cX11_make 59 = .ok (.iconst 0, 1) := by decide +kernel
theorem dX11_make_60 : decode cX11_make 60 = .ok (.istore 5, 2) := by decide +kernel
theorem dX11_make_62 : decode cX11_make 62 = .ok (.iload 5, 2) := by decide +kernel
theorem dX11_make_64 : decode cX11_make 64 = .ok (.iload_n 3, 1) := by decide +kernel
theorem dX11_make_65 : decode cX11_make 65 = .ok (.if_icmp .ge 27, 3) := by decide +kernel
theorem dX11_make_68 : decode cX11_make 68 = .ok (.iload 4, 2) := by decide +kernel
theorem dX11_make_70 : decode cX11_make 70 = .ok (.aload_n 0, 1) := by decide +kernel
theorem dX11_make_71 : decode cX11_make 71 = .ok (.getfield 37, 3) := by decide +kernel
theorem dX11_make_74 : decode cX11_make 74 = .ok (.iload_n 2, 1) := by decide +kernel
theorem dX11_make_75 : decode cX11_make 75 = .ok (.iload 5, 2) := by decide +kernel
theorem dX11_make_77 : decode cX11_make 77 = .ok (.invokevirtual 316, 3) := by decide +kernel
theorem dX11_make_80 : decode cX11_make 80 = .ok (.iload 5, 2) := by decide +kernel
theorem dX11_make_82 : decode cX11_make 82 = .ok (.ishl, 1) := by decide +kernel
theorem dX11_make_83 : decode cX11_make 83 = .ok (.ior, 1) := by decide +kernel
theorem dX11_make_84 : decode cX11_make 84 = .ok (.istore 4, 2) := by decide +kernel
theorem dX11_make_86 : decode cX11_make 86 = .ok (.iinc 5 1, 3) := by decide +kernel
theorem dX11_make_89 : decode cX11_make 89 = .ok (.goto (-27), 3) := by decide +kernel
theorem dX11_make_92 : decode cX11_make 92 = .ok (.aload_n 0, 1) := by decide +kernel
theorem dX11_make_93 : decode cX11_make 93 = .ok (.getfield 28, 3) := by decide +kernel
theorem dX11_make_96 : decode cX11_make 96 = .ok (.iconst 1, 1) := by decide +kernel
theorem dX11_make_97 : decode cX11_make 97 = .ok (.iload_n 3, 1) := by decide +kernel
theorem dX11_make_98 : decode cX11_make 98 = .ok (.ishl, 1) := by decide +kernel
theorem dX11_make_99 : decode cX11_make 99 = .ok (.iconst 1, 1) := by decide +kernel
theorem dX11_make_100 : decode cX11_make 100 = .ok (.isub, 1) := by decide +kernel
theorem dX11_make_101 : decode cX11_make 101 = .ok (.iload 4, 2) := by decide +kernel
theorem dX11_make_103 : decode cX11_make 103 = .ok (.invokevirtual 196, 3) := by decide +kernel
theorem dX11_make_106 : decode cX11_make 106 = .ok (.ireturn, 1) := by decide +kernel
theorem dX11_march_0 : decode cX11_march 0 = .ok (.iload_n 1, 1) := by decide +kernel
theorem dX11_march_1 : decode cX11_march 1 = .ok (.invokestatic 478, 3) := by decide +kernel
theorem dX11_march_4 : decode cX11_march 4 = .ok (.ifCond .ne 11, 3) := by decide +kernel
theorem dX11_march_7 : decode cX11_march 7 = .ok (.new 114, 3) := by decide +kernel
theorem dX11_march_10 : decode cX11_march 10 = .ok (.dup, 1) := by decide +kernel
theorem dX11_march_11 : decode cX11_march 11 = .ok (.invokespecial 116, 3) := by decide +kernel
theorem dX11_march_14 : decode cX11_march 14 = .ok (.athrow, 1) := by decide +kernel
theorem dX11_march_15 : decode cX11_march 15 = .ok (.aload_n 0, 1) := by decide +kernel
theorem dX11_march_16 : decode cX11_march 16 = .ok (.getfield 78, 3) := by decide +kernel
theorem dX11_march_19 : decode cX11_march 19 = .ok (.getfield 482, 3) := by decide +kernel
theorem dX11_march_22 : decode cX11_march 22 = .ok (.bipush 24, 2) := by decide +kernel
theorem dX11_march_24 : decode cX11_march 24 = .ok (.if_icmp .lt 11, 3) := by decide +kernel
theorem dX11_march_27 : decode cX11_march 27 = .ok (.new 141, 3) := by decide +kernel
theorem dX11_march_30 : decode cX11_march 30 = .ok (.dup, 1) := by decide +kernel
theorem dX11_march_31 : decode cX11_march 31 = .ok (.invokespecial 143, 3) := by decide +kernel
theorem dX11_march_34 : decode cX11_march 34 = .ok (.athrow, 1) := by decide +kernel
theorem dX11_march_35 : decode cX11_march 35 = .ok (.aload_n 0, 1) := by decide +kernel
theorem dX11_march_36 : decode cX11_march 36 = .ok (.getfield 78, 3) := by decide +kernel
theorem dX11_march_39 : decode cX11_march 39 = .ok (.iload_n 1, 1) := by decide +kernel
theorem dX11_march_40 : decode cX11_march 40 = .ok (.invokevirtual 485, 3) := by decide +kernel
theorem dX11_march_43 : decode cX11_march 43 = .ok (.ireturn, 1) := by decide +kernel
theorem dX11_marchCount_0 : decode cX11_marchCount 0 = .ok (.iload_n 1, 1) := by decide +kernel
theorem dX11_marchCount_1 : decode cX11_marchCount 1 = .ok (.invokestatic 498, 3) := by decide +kernel
theorem dX11_marchCount_4 : decode cX11_marchCount 4 = .ok (.ifCond .ne 11, 3) := by decide +kernel
theorem dX11_marchCount_7 : decode cX11_marchCount 7 = .ok (.new 114, 3) := by decide +kernel
theorem dX11_marchCount_10 : decode cX11_marchCount 10 = .ok (.dup, 1) := by decide +kernel
theorem dX11_marchCount_11 : decode cX11_marchCount 11 = .ok (.invokespecial 116, 3) := by decide +kernel
theorem dX11_marchCount_14 : decode cX11_marchCount 14 = .ok (.athrow, 1) := by decide +kernel
theorem dX11_marchCount_15 : decode cX11_marchCount 15 = .ok (.aload_n 0, 1) := by decide +kernel
theorem dX11_marchCount_16 : decode cX11_marchCount 16 = .ok (.getfield 78, 3) := by decide +kernel
theorem dX11_marchCount_19 : decode cX11_marchCount 19 = .ok (.invokevirtual 488, 3) := by decide +kernel
theorem dX11_marchCount_22 : decode cX11_marchCount 22 = .ok (.ifCond .ne 11, 3) := by decide +kernel
theorem dX11_marchCount_25 : decode cX11_marchCount 25 = .ok (.new 125, 3) := by decide +kernel
theorem dX11_marchCount_28 : decode cX11_marchCount 28 = .ok (.dup, 1) := by decide +kernel
theorem dX11_marchCount_29 : decode cX11_marchCount 29 = .ok (.invokespecial 127, 3) := by decide +kernel
theorem dX11_marchCount_32 : decode cX11_marchCount 32 = .ok (.athrow, 1) := by decide +kernel
theorem dX11_marchCount_33 : decode cX11_marchCount 33 = .ok (.aload_n 0, 1) := by decide +kernel
theorem dX11_marchCount_34 : decode cX11_marchCount 34 = .ok (.getfield 78, 3) := by decide +kernel
theorem dX11_marchCount_37 : decode cX11_marchCount 37 = .ok (.iload_n 1, 1) := by decide +kernel
theorem dX11_marchCount_38 : decode cX11_marchCount 38 = .ok (.invokevirtual 501, 3) := by decide +kernel
theorem dX11_marchCount_41 : decode cX11_marchCount 41 = .ok (.ireturn, 1) := by decide +kernel
theorem dX11_marchFinds_0 : decode cX11_marchFinds 0 = .ok (.iload_n 1, 1) := by decide +kernel
theorem dX11_marchFinds_1 : decode cX11_marchFinds 1 = .ok (.iload_n 2, 1) := by decide +kernel
theorem dX11_marchFinds_2 : decode cX11_marchFinds 2 = .ok (.iload_n 3, 1) := by decide +kernel
theorem dX11_marchFinds_3 : decode cX11_marchFinds 3 = .ok (.iload 4, 2) := by decide +kernel
theorem dX11_marchFinds_5 : decode cX11_marchFinds 5 = .ok (.iload 5, 2) := by decide +kernel
theorem dX11_marchFinds_7 : decode cX11_marchFinds 7 = .ok (.invokestatic 491, 3) := by decide +kernel
theorem dX11_marchFinds_10 : decode cX11_marchFinds 10 = .ok (.ifCond .ne 11, 3) := by decide +kernel
theorem dX11_marchFinds_13 : decode cX11_marchFinds 13 = .ok (.new 114, 3) := by decide +kernel
theorem dX11_marchFinds_16 : decode cX11_marchFinds 16 = .ok (.dup, 1) := by decide +kernel
theorem dX11_marchFinds_17 : decode cX11_marchFinds 17 = .ok (.invokespecial 116, 3) := by decide +kernel
theorem dX11_marchFinds_20 : decode cX11_marchFinds 20 = .ok (.athrow, 1) := by decide +kernel
theorem dX11_marchFinds_21 : decode cX11_marchFinds 21 = .ok (.aload_n 0, 1) := by decide +kernel
theorem dX11_marchFinds_22 : decode cX11_marchFinds 22 = .ok (.getfield 78, 3) := by decide +kernel
theorem dX11_marchFinds_25 : decode cX11_marchFinds 25 = .ok (.invokevirtual 488, 3) := by decide +kernel
theorem dX11_marchFinds_28 : decode cX11_marchFinds 28 = .ok (.ifCond .ne 11, 3) := by decide +kernel
theorem dX11_marchFinds_31 : decode cX11_marchFinds 31 = .ok (.new 125, 3) := by decide +kernel
theorem dX11_marchFinds_34 : decode cX11_marchFinds 34 = .ok (.dup, 1) := by decide +kernel
theorem dX11_marchFinds_35 : decode cX11_marchFinds 35 = .ok (.invokespecial 127, 3) := by decide +kernel
theorem dX11_marchFinds_38 : decode cX11_marchFinds 38 = .ok (.athrow, 1) := by decide +kernel
theorem dX11_marchFinds_39 : decode cX11_marchFinds 39 = .ok (.aload_n 0, 1) := by decide +kernel
theorem dX11_marchFinds_40 : decode cX11_marchFinds 40 = .ok (.getfield 78, 3) := by decide +kernel
theorem dX11_marchFinds_43 : decode cX11_marchFinds 43 = .ok (.iload_n 1, 1) := by decide +kernel
theorem dX11_marchFinds_44 : decode cX11_marchFinds 44 = .ok (.iload_n 2, 1) := by decide +kernel
theorem dX11_marchFinds_45 : decode cX11_marchFinds 45 = .ok (.iload_n 3, 1) := by decide +kernel
theorem dX11_marchFinds_46 : decode cX11_marchFinds 46 = .ok (.iload 4, 2) := by decide +kernel
theorem dX11_marchFinds_48 : decode cX11_marchFinds 48 = .ok (.iload 5, 2) := by decide +kernel
theorem dX11_marchFinds_50 : decode cX11_marchFinds 50 = .ok (.invokevirtual 495, 3) := by decide +kernel
theorem dX11_marchFinds_53 : decode cX11_marchFinds 53 = .ok (.ireturn, 1) := by decide +kernel
theorem dX11_meanFound_0 : decode cX11_meanFound 0 = .ok (.aload_n 0, 1) := by decide +kernel
theorem dX11_meanFound_1 : decode cX11_meanFound 1 = .ok (.getfield 21, 3) := by decide +kernel
theorem dX11_meanFound_4 : decode cX11_meanFound 4 = .ok (.invokevirtual 225, 3) := by decide +kernel
theorem dX11_meanFound_7 : decode cX11_meanFound 7 = .ok (.istore_n 1, 1) := by decide +kernel
theorem dX11_meanFound_8 : decode cX11_meanFound 8 = .ok (.iload_n 1, 1) := by decide +kernel
theorem dX11_meanFound_9 : decode cX11_meanFound 9 = .ok (.ifCond .ne 11, 3) := by decide +kernel
theorem dX11_meanFound_12 : decode cX11_meanFound 12 = .ok (.new 267, 3) := by decide +kernel
theorem dX11_meanFound_15 : decode cX11_meanFound 15 = .ok (.dup, 1) := by decide +kernel
theorem dX11_meanFound_16 : decode cX11_meanFound 16 = .ok (.invokespecial 269, 3) := by decide +kernel
theorem dX11_meanFound_19 : decode cX11_meanFound 19 = .ok (.athrow, 1) := by decide +kernel
theorem dX11_meanFound_20 : decode cX11_meanFound 20 = .ok (.aload_n 0, 1) := by decide +kernel
theorem dX11_meanFound_21 : decode cX11_meanFound 21 = .ok (.getfield 37, 3) := by decide +kernel
theorem dX11_meanFound_24 : decode cX11_meanFound 24 = .ok (.aload_n 0, 1) := by decide +kernel
theorem dX11_meanFound_25 : decode cX11_meanFound 25 = .ok (.getfield 28, 3) := by decide +kernel
theorem dX11_meanFound_28 : decode cX11_meanFound 28 = .ok (.invokevirtual 276, 3) := by decide +kernel
theorem dX11_meanFound_31 : decode cX11_meanFound 31 = .ok (.iconst 0, 1) := by decide +kernel
theorem dX11_meanFound_32 : decode cX11_meanFound 32 = .ok (.istore_n 2, 1) := by decide +kernel
theorem dX11_meanFound_33 : decode cX11_meanFound 33 = .ok (.iconst 0, 1) := by decide +kernel
theorem dX11_meanFound_34 : decode cX11_meanFound 34 = .ok (.istore_n 3, 1) := by decide +kernel
theorem dX11_meanFound_35 : decode cX11_meanFound 35 = .ok (.iload_n 3, 1) := by decide +kernel
theorem dX11_meanFound_36 : decode cX11_meanFound 36 = .ok (.aload_n 0, 1) := by decide +kernel
theorem dX11_meanFound_37 : decode cX11_meanFound 37 = .ok (.getfield 21, 3) := by decide +kernel
theorem dX11_meanFound_40 : decode cX11_meanFound 40 = .ok (.getfield 111, 3) := by decide +kernel
theorem dX11_meanFound_43 : decode cX11_meanFound 43 = .ok (.if_icmp .ge 35, 3) := by decide +kernel
theorem dX11_meanFound_46 : decode cX11_meanFound 46 = .ok (.aload_n 0, 1) := by decide +kernel
theorem dX11_meanFound_47 : decode cX11_meanFound 47 = .ok (.getfield 21, 3) := by decide +kernel
theorem dX11_meanFound_50 : decode cX11_meanFound 50 = .ok (.iload_n 3, 1) := by decide +kernel
theorem dX11_meanFound_51 : decode cX11_meanFound 51 = .ok (.invokevirtual 294, 3) := by decide +kernel
theorem dX11_meanFound_54 : decode cX11_meanFound 54 = .ok (.ifCond .eq 18, 3) := by decide +kernel
theorem dX11_meanFound_57 : decode cX11_meanFound 57 = .ok (.iload_n 2, 1) := by decide +kernel
theorem dX11_meanFound_58 : decode cX11_meanFound 58 = .ok (.aload_n 0, 1) := by decide +kernel
theorem dX11_meanFound_59 : decode cX11_meanFound 59 = .ok (.getfield 37, 3) := by decide +kernel
theorem dX11_meanFound_62 : decode cX11_meanFound 62 = .ok (.getfield 280, 3) := by decide +kernel
theorem dX11_meanFound_65 : decode cX11_meanFound 65 = .ok (.iload_n 3, 1) := by decide +kernel
theorem dX11_meanFound_66 : decode cX11_meanFound 66 = .ok (.laload, 1) := by decide +kernel
theorem dX11_meanFound_67 : decode cX11_meanFound 67 = .ok (.invokestatic 297, 3) := by decide +kernel
theorem dX11_meanFound_70 : decode cX11_meanFound 70 = .ok (.iadd, 1) := by decide +kernel
theorem dX11_meanFound_71 : decode cX11_meanFound 71 = .ok (.istore_n 2, 1) := by decide +kernel
theorem dX11_meanFound_72 : decode cX11_meanFound 72 = .ok (.iinc 3 1, 3) := by decide +kernel
theorem dX11_meanFound_75 : decode cX11_meanFound 75 = .ok (.goto (-40), 3) := by decide +kernel
theorem dX11_meanFound_78 : decode cX11_meanFound 78 = .ok (.iload_n 2, 1) := by decide +kernel
theorem dX11_meanFound_79 : decode cX11_meanFound 79 = .ok (.i2d, 1) := by decide +kernel
theorem dX11_meanFound_80 : decode cX11_meanFound 80 = .ok (.iload_n 1, 1) := by decide +kernel
theorem dX11_meanFound_81 : decode cX11_meanFound 81 = .ok (.i2d, 1) := by decide +kernel
theorem dX11_meanFound_82 : decode cX11_meanFound 82 = .ok (.ddiv, 1) := by decide +kernel
theorem dX11_meanFound_83 : decode cX11_meanFound 83 = .ok (.dreturn, 1) := by decide +kernel
theorem dX11_mend_0 : decode cX11_mend 0 = .ok (.aload_n 0, 1) := by decide +kernel
theorem dX11_mend_1 : decode cX11_mend 1 = .ok (.getfield 71, 3) := by decide +kernel
theorem dX11_mend_4 : decode cX11_mend 4 = .ok (.getfield 429, 3) := by decide +kernel
theorem dX11_mend_7 : decode cX11_mend 7 = .ok (.istore_n 1, 1) := by decide +kernel
theorem dX11_mend_8 : decode cX11_mend 8 = .ok (.aload_n 0, 1) := by decide +kernel
theorem dX11_mend_9 : decode cX11_mend 9 = .ok (.getfield 71, 3) := by decide +kernel
theorem dX11_mend_12 : decode cX11_mend 12 = .ok (.iconst 0, 1) := by decide +kernel
theorem dX11_mend_13 : decode cX11_mend 13 = .ok (.putfield 429, 3) := by decide +kernel
theorem dX11_mend_16 : decode cX11_mend 16 = .ok (.iload_n 1, 1) := by decide +kernel
theorem dX11_mend_17 : decode cX11_mend 17 = .ok (.ireturn, 1) := by decide +kernel
theorem dX11_merge_0 : decode cX11_merge 0 = .ok (.aload_n 0, 1) := by decide +kernel
theorem dX11_merge_1 : decode cX11_merge 1 = .ok (.iload_n 1, 1) := by decide +kernel
theorem dX11_merge_2 : decode cX11_merge 2 = .ok (.invokevirtual 200, 3) := by decide +kernel
theorem dX11_merge_5 : decode cX11_merge 5 = .ok (.aload_n 0, 1) := by decide +kernel
theorem dX11_merge_6 : decode cX11_merge 6 = .ok (.iload_n 2, 1) := by decide +kernel
theorem dX11_merge_7 : decode cX11_merge 7 = .ok (.invokevirtual 200, 3) := by decide +kernel
theorem dX11_merge_10 : decode cX11_merge 10 = .ok (.iload_n 1, 1) := by decide +kernel
theorem dX11_merge_11 : decode cX11_merge 11 = .ok (.iload_n 2, 1) := by decide +kernel
theorem dX11_merge_12 : decode cX11_merge 12 = .ok (.if_icmp .eq 15, 3) := by decide +kernel
theorem dX11_merge_15 : decode cX11_merge 15 = .ok (.aload_n 0, 1) := by decide +kernel
theorem dX11_merge_16 : decode cX11_merge 16 = .ok (.getfield 28, 3) := by decide +kernel
theorem dX11_merge_19 : decode cX11_merge 19 = .ok (.iload_n 1, 1) := by decide +kernel
theorem dX11_merge_20 : decode cX11_merge 20 = .ok (.iload_n 2, 1) := by decide +kernel
theorem dX11_merge_21 : decode cX11_merge 21 = .ok (.invokevirtual 331, 3) := by decide +kernel
theorem dX11_merge_24 : decode cX11_merge 24 = .ok (.ifCond .ne 11, 3) := by decide +kernel
theorem dX11_merge_27 : decode cX11_merge 27 = .ok (.new 125, 3) := by decide +kernel
theorem dX11_merge_30 : decode cX11_merge 30 = .ok (.dup, 1) := by decide +kernel
theorem dX11_merge_31 : decode cX11_merge 31 = .ok (.invokespecial 127, 3) := by decide +kernel
theorem dX11_merge_34 : decode cX11_merge 34 = .ok (.athrow, 1) := by decide +kernel
theorem dX11_merge_35 : decode cX11_merge 35 = .ok (.aload_n 0, 1) := by decide +kernel
theorem dX11_merge_36 : decode cX11_merge 36 = .ok (.getfield 28, 3) := by decide +kernel
theorem dX11_merge_39 : decode cX11_merge 39 = .ok (.iload_n 1, 1) := by decide +kernel
theorem dX11_merge_40 : decode cX11_merge 40 = .ok (.iload_n 2, 1) := by decide +kernel
theorem dX11_merge_41 : decode cX11_merge 41 = .ok (.invokevirtual 334, 3) := by decide +kernel
theorem dX11_merge_44 : decode cX11_merge 44 = .ok (.aload_n 0, 1) := by decide +kernel
theorem dX11_merge_45 : decode cX11_merge 45 = .ok (.getfield 28, 3) := by decide +kernel
theorem dX11_merge_48 : decode cX11_merge 48 = .ok (.iload_n 2, 1) := by decide +kernel
theorem dX11_merge_49 : decode cX11_merge 49 = .ok (.invokevirtual 337, 3) := by decide +kernel
theorem dX11_merge_52 : decode cX11_merge 52 = .ok (.aload_n 0, 1) := by decide +kernel
theorem dX11_merge_53 : decode cX11_merge 53 = .ok (.getfield 28, 3) := by decide +kernel
theorem dX11_merge_56 : decode cX11_merge 56 = .ok (.getfield 103, 3) := by decide +kernel
theorem dX11_merge_59 : decode cX11_merge 59 = .ok (.ireturn, 1) := by decide +kernel
theorem dX11_needNotSlow_0 : decode cX11_needNotSlow 0 = .ok (.aload_n 0, 1) := by decide +kernel
theorem dX11_needNotSlow_1 : decode cX11_needNotSlow 1 = .ok (.iload_n 1, 1) := by decide +kernel
theorem dX11_needNotSlow_2 : decode cX11_needNotSlow 2 = .ok (.invokevirtual 107, 3) := by decide +kernel
theorem dX11_needNotSlow_5 : decode cX11_needNotSlow 5 = .ok (.aload_n 0, 1) := by decide +kernel
theorem dX11_needNotSlow_6 : decode cX11_needNotSlow 6 = .ok (.getfield 21, 3) := by decide +kernel
theorem dX11_needNotSlow_9 : decode cX11_needNotSlow 9 = .ok (.getfield 117, 3) := by decide +kernel
theorem dX11_needNotSlow_12 : decode cX11_needNotSlow 12 = .ok (.iload_n 1, 1) := by decide +kernel
theorem dX11_needNotSlow_13 : decode cX11_needNotSlow 13 = .ok (.caload, 1) := by decide +kernel
theorem dX11_needNotSlow_14 : decode cX11_needNotSlow 14 = .ok (.bipush 108, 2) := by decide +kernel
theorem dX11_needNotSlow_16 : decode cX11_needNotSlow 16 = .ok (.if_icmp .ne 11, 3) := by decide +kernel
theorem dX11_needNotSlow_19 : decode cX11_needNotSlow 19 = .ok (.new 114, 3) := by decide +kernel
theorem dX11_needNotSlow_22 : decode cX11_needNotSlow 22 = .ok (.dup, 1) := by decide +kernel
theorem dX11_needNotSlow_23 : decode cX11_needNotSlow 23 = .ok (.invokespecial 116, 3) := by decide +kernel
theorem dX11_needNotSlow_26 : decode cX11_needNotSlow 26 = .ok (.athrow, 1) := by decide +kernel
theorem dX11_needNotSlow_27 : decode cX11_needNotSlow 27 = .ok (.return_, 1) := by decide +kernel
theorem dX11_needRoomForCores_0 : decode cX11_needRoomForCores 0 = .ok (.aload_n 0, 1) := by decide +kernel
theorem dX11_needRoomForCores_1 : decode cX11_needRoomForCores 1 = .ok (.getfield 92, 3) := by decide +kernel
theorem dX11_needRoomForCores_4 : decode cX11_needRoomForCores 4 = .ok (.getfield 535, 3) := by decide +kernel
theorem dX11_needRoomForCores_7 : decode cX11_needRoomForCores 7 = .ok (.ifCond .eq 15, 3) := by decide +kernel
theorem dX11_needRoomForCores_10 : decode cX11_needRoomForCores 10 = .ok (.aload_n 0, 1) := by decide +kernel
theorem dX11_needRoomForCores_11 : decode cX11_needRoomForCores 11 = .ok (.getfield 92, 3) := by decide +kernel
theorem dX11_needRoomForCores_14 : decode cX11_needRoomForCores 14 = .ok (.iload_n 1, 1) := by decide +kernel
theorem dX11_needRoomForCores_15 : decode cX11_needRoomForCores 15 = .ok (.iload_n 2, 1) := by decide +kernel
theorem dX11_needRoomForCores_16 : decode cX11_needRoomForCores 16 = .ok (.invokevirtual 547, 3) := by decide +kernel
theorem dX11_needRoomForCores_19 : decode cX11_needRoomForCores 19 = .ok (.ifCond .ne 11, 3) := by decide +kernel
theorem dX11_needRoomForCores_22 : decode cX11_needRoomForCores 22 = .ok (.new 310, 3) := by decide +kernel
theorem dX11_needRoomForCores_25 : decode cX11_needRoomForCores 25 = .ok (.dup, 1) := by decide +kernel
theorem dX11_needRoomForCores_26 : decode cX11_needRoomForCores 26 = .ok (.invokespecial 312, 3) := by decide +kernel
theorem dX11_needRoomForCores_29 : decode cX11_needRoomForCores 29 = .ok (.athrow, 1) := by decide +kernel
theorem dX11_needRoomForCores_30 : decode cX11_needRoomForCores 30 = .ok (.return_, 1) := by decide +kernel
theorem dX5_isElement_0 : decode cX5_isElement 0 = .ok (.iload_n 0, 1) := by decide +kernel
theorem dX5_isElement_1 : decode cX5_isElement 1 = .ok (.bipush 94, 2) := by decide +kernel
theorem dX5_isElement_3 : decode cX5_isElement 3 = .ok (.if_icmp .eq 9, 3) := by decide +kernel
theorem dX5_isElement_6 : decode cX5_isElement 6 = .ok (.iload_n 0, 1) := by decide +kernel
theorem dX5_isElement_7 : decode cX5_isElement 7 = .ok (.bipush 118, 2) := by decide +kernel
theorem dX5_isElement_9 : decode cX5_isElement 9 = .ok (.if_icmp .ne 7, 3) := by decide +kernel
theorem dX5_isElement_12 : decode cX5_isElement 12 = .ok (.iconst 1, 1) := by decide +kernel
theorem dX5_isElement_13 : decode cX5_isElement 13 = .ok (.goto 4, 3) := by decide +kernel
theorem dX5_isElement_16 : decode cX5_isElement 16 = .ok (.iconst 0, 1) := by decide +kernel
theorem dX5_isElement_17 : decode cX5_isElement 17 = .ok (.ireturn, 1) := by decide +kernel
theorem dX5_isFault_0 : decode cX5_isFault 0 = .ok (.iload_n 0, 1) := by decide +kernel
theorem dX5_isFault_1 : decode cX5_isFault 1 = .ok (.invokestatic 30, 3) := by decide +kernel
theorem dX5_isFault_4 : decode cX5_isFault 4 = .ok (.ifCond .eq 13, 3) := by decide +kernel
theorem dX5_isFault_7 : decode cX5_isFault 7 = .ok (.iload_n 1, 1) := by decide +kernel
theorem dX5_isFault_8 : decode cX5_isFault 8 = .ok (.ifCond .lt 9, 3) := by decide +kernel
theorem dX5_isFault_11 : decode cX5_isFault 11 = .ok (.iload_n 1, 1) := by decide +kernel
theorem dX5_isFault_12 : decode cX5_isFault 12 = .ok (.bipush 8, 2) := by decide +kernel
theorem dX5_isFault_14 : decode cX5_isFault 14 = .ok (.if_icmp .lt 5, 3) := by decide +kernel
theorem dX5_isFault_17 : decode cX5_isFault 17 = .ok (.iconst 0, 1) := by decide +kernel
theorem dX5_isFault_18 : decode cX5_isFault 18 = .ok (.ireturn, 1) := by decide +kernel
theorem dX5_isFault_19 : decode cX5_isFault 19 = .ok (.iload_n 0, 1) := by decide +kernel
theorem dX5_isFault_20 : decode cX5_isFault 20 = .ok (.invokestatic 33, 3) := by decide +kernel
theorem dX5_isFault_23 : decode cX5_isFault 23 = .ok (.ifCond .eq 20, 3) := by decide +kernel
theorem dX5_isFault_26 : decode cX5_isFault 26 = .ok (.iload_n 2, 1) := by decide +kernel
theorem dX5_isFault_27 : decode cX5_isFault 27 = .ok (.ifCond .lt 14, 3) := by decide +kernel
theorem dX5_isFault_30 : decode cX5_isFault 30 = .ok (.iload_n 2, 1) := by decide +kernel
theorem dX5_isFault_31 : decode cX5_isFault 31 = .ok (.bipush 8, 2) := by decide +kernel
theorem dX5_isFault_33 : decode cX5_isFault 33 = .ok (.if_icmp .ge 8, 3) := by decide +kernel
theorem dX5_isFault_36 : decode cX5_isFault 36 = .ok (.iload_n 1, 1) := by decide +kernel
theorem dX5_isFault_37 : decode cX5_isFault 37 = .ok (.iload_n 2, 1) := by decide +kernel
theorem dX5_isFault_38 : decode cX5_isFault 38 = .ok (.if_icmp .ne 5, 3) := by decide +kernel
theorem dX5_isFault_41 : decode cX5_isFault 41 = .ok (.iconst 0, 1) := by decide +kernel
theorem dX5_isFault_42 : decode cX5_isFault 42 = .ok (.ireturn, 1) := by decide +kernel
theorem dX5_isFault_43 : decode cX5_isFault 43 = .ok (.iload_n 0, 1) := by decide +kernel
theorem dX5_isFault_44 : decode cX5_isFault 44 = .ok (.bipush 97, 2) := by decide +kernel
theorem dX5_isFault_46 : decode cX5_isFault 46 = .ok (.if_icmp .eq 14, 3) := by decide +kernel
theorem dX5_isFault_49 : decode cX5_isFault 49 = .ok (.iload_n 3, 1) := by decide +kernel
theorem dX5_isFault_50 : decode cX5_isFault 50 = .ok (.ifCond .eq 10, 3) := by decide +kernel
theorem dX5_isFault_53 : decode cX5_isFault 53 = .ok (.iload_n 3, 1) := by decide +kernel
theorem dX5_isFault_54 : decode cX5_isFault 54 = .ok (.iconst 1, 1) := by decide +kernel
theorem dX5_isFault_55 : decode cX5_isFault 55 = .ok (.if_icmp .eq 5, 3) := by decide +kernel
theorem dX5_isFault_58 : decode cX5_isFault 58 = .ok (.iconst 0, 1) := by decide +kernel
theorem dX5_isFault_59 : decode cX5_isFault 59 = .ok (.ireturn, 1) := by decide +kernel
theorem dX5_isFault_60 : decode cX5_isFault 60 = .ok (.iload_n 0, 1) := by decide +kernel
theorem dX5_isFault_61 : decode cX5_isFault 61 = .ok (.bipush 99, 2) := by decide +kernel
theorem dX5_isFault_63 : decode cX5_isFault 63 = .ok (.if_icmp .ne 14, 3) := by decide +kernel
theorem dX5_isFault_66 : decode cX5_isFault 66 = .ok (.iload 4, 2) := by decide +kernel
theorem dX5_isFault_68 : decode cX5_isFault 68 = .ok (.ifCond .eq 9, 3) := by decide +kernel
theorem dX5_isFault_71 : decode cX5_isFault 71 = .ok (.iload 4, 2) := by decide +kernel
theorem dX5_isFault_73 : decode cX5_isFault 73 = .ok (.iconst 1, 1) := by decide +kernel
theorem dX5_isFault_74 : decode cX5_isFault 74 = .ok (.if_icmp .ne 7, 3) := by decide +kernel
theorem dX5_isFault_77 : decode cX5_isFault 77 = .ok (.iconst 1, 1) := by decide +kernel
theorem dX5_isFault_78 : decode cX5_isFault 78 = .ok (.goto 4, 3) := by decide +kernel
theorem dX5_isFault_81 : decode cX5_isFault 81 = .ok (.iconst 0, 1) := by decide +kernel
theorem dX5_isFault_82 : decode cX5_isFault 82 = .ok (.ireturn, 1) := by decide +kernel
theorem dX5_isKind_0 : decode cX5_isKind 0 = .ok (.iload_n 0, 1) := by decide +kernel
theorem dX5_isKind_1 : decode cX5_isKind 1 = .ok (.bipush 115, 2) := by decide +kernel
theorem dX5_isKind_3 : decode cX5_isKind 3 = .ok (.if_icmp .eq 27, 3) := by decide +kernel
theorem dX5_isKind_6 : decode cX5_isKind 6 = .ok (.iload_n 0, 1) := by decide +kernel
theorem dX5_isKind_7 : decode cX5_isKind 7 = .ok (.bipush 116, 2) := by decide +kernel
theorem dX5_isKind_9 : decode cX5_isKind 9 = .ok (.if_icmp .eq 21, 3) := by decide +kernel
theorem dX5_isKind_12 : decode cX5_isKind 12 = .ok (.iload_n 0, 1) := by decide +kernel
theorem dX5_isKind_13 : decode cX5_isKind 13 = .ok (.bipush 99, 2) := by decide +kernel
theorem dX5_isKind_15 : decode cX5_isKind 15 = .ok (.if_icmp .eq 15, 3) := by decide +kernel
theorem dX5_isKind_18 : decode cX5_isKind 18 = .ok (.iload_n 0, 1) := by decide +kernel
theorem dX5_isKind_19 : decode cX5_isKind 19 = .ok (.bipush 105, 2) := by decide +kernel
theorem dX5_isKind_21 : decode cX5_isKind 21 = .ok (.if_icmp .eq 9, 3) := by decide +kernel
theorem dX5_isKind_24 : decode cX5_isKind 24 = .ok (.iload_n 0, 1) := by decide +kernel
theorem dX5_isKind_25 : decode cX5_isKind 25 = .ok (.bipush 97, 2) := by decide +kernel
theorem dX5_isKind_27 : decode cX5_isKind 27 = .ok (.if_icmp .ne 7, 3) := by decide +kernel
theorem dX5_isKind_30 : decode cX5_isKind 30 = .ok (.iconst 1, 1) := by decide +kernel
theorem dX5_isKind_31 : decode cX5_isKind 31 = .ok (.goto 4, 3) := by decide +kernel
theorem dX5_isKind_34 : decode cX5_isKind 34 = .ok (.iconst 0, 1) := by decide +kernel
theorem dX5_isKind_35 : decode cX5_isKind 35 = .ok (.ireturn, 1) := by decide +kernel
theorem dX5_isMarchRight_0 : decode cX5_isMarchRight 0 = .ok (.aload_n 0, 1) := by decide +kernel
theorem dX5_isMarchRight_1 : decode cX5_isMarchRight 1 = .ok (.bipush 45, 2) := by decide +kernel
theorem dX5_isMarchRight_3 : decode cX5_isMarchRight 3 = .ok (.putfield 19, 3) := by decide +kernel
theorem dX5_isMarchRight_6 : decode cX5_isMarchRight 6 = .ok (.aload_n 0, 1) := by decide +kernel
theorem dX5_isMarchRight_7 : decode cX5_isMarchRight 7 = .ok (.getfield 36, 3) := by decide +kernel
theorem dX5_isMarchRight_10 : decode cX5_isMarchRight 10 = .ok (.ifCond .le 37, 3) := by decide +kernel
theorem dX5_isMarchRight_13 : decode cX5_isMarchRight 13 = .ok (.aload_n 0, 1) := by decide +kernel
theorem dX5_isMarchRight_14 : decode cX5_isMarchRight 14 = .ok (.getfield 11, 3) := by decide +kernel
theorem dX5_isMarchRight_17 : decode cX5_isMarchRight 17 = .ok (.iconst 0, 1) := by decide +kernel
theorem dX5_isMarchRight_18 : decode cX5_isMarchRight 18 = .ok (.caload, 1) := by decide +kernel
theorem dX5_isMarchRight_19 : decode cX5_isMarchRight 19 = .ok (.invokestatic 23, 3) := by decide +kernel
theorem dX5_isMarchRight_22 : decode cX5_isMarchRight 22 = .ok (.ifCond .eq 25, 3) := by decide +kernel
theorem dX5_isMarchRight_25 : decode cX5_isMarchRight 25 = .ok (.aload_n 0, 1) := by decide +kernel
theorem dX5_isMarchRight_26 : decode cX5_isMarchRight 26 = .ok (.iconst 0, 1) := by decide +kernel
theorem dX5_isMarchRight_27 : decode cX5_isMarchRight 27 = .ok (.invokevirtual 40, 3) := by decide +kernel
theorem dX5_isMarchRight_30 : decode cX5_isMarchRight 30 = .ok (.ifCond .eq 17, 3) := by decide +kernel
theorem dX5_isMarchRight_33 : decode cX5_isMarchRight 33 = .ok (.aload_n 0, 1) := by decide +kernel
theorem dX5_isMarchRight_34 : decode cX5_isMarchRight 34 = .ok (.sipush 255, 3) := by decide +kernel
theorem dX5_isMarchRight_37 : decode cX5_isMarchRight 37 = .ok (.invokevirtual 40, 3) := by decide +kernel
theorem dX5_isMarchRight_40 : decode cX5_isMarchRight 40 = .ok (.ifCond .eq 7, 3) := by decide +kernel
theorem dX5_isMarchRight_43 : decode cX5_isMarchRight 43 = .ok (.iconst 1, 1) := by decide +kernel
theorem dX5_isMarchRight_44 : decode cX5_isMarchRight 44 = .ok (.goto 4, 3) := by decide +kernel
theorem dX5_isMarchRight_47 : decode cX5_isMarchRight 47 = .ok (.iconst 0, 1) := by decide +kernel
theorem dX5_isMarchRight_48 : decode cX5_isMarchRight 48 = .ok (.ireturn, 1) := by decide +kernel
theorem dX5_isOfTwoCells_0 : decode cX5_isOfTwoCells 0 = .ok (.iload_n 0, 1) := by decide +kernel
theorem dX5_isOfTwoCells_1 : decode cX5_isOfTwoCells 1 = .ok (.bipush 99, 2) := by decide +kernel
theorem dX5_isOfTwoCells_3 : decode cX5_isOfTwoCells 3 = .ok (.if_icmp .eq 15, 3) := by decide +kernel
theorem dX5_isOfTwoCells_6 : decode cX5_isOfTwoCells 6 = .ok (.iload_n 0, 1) := by decide +kernel
theorem dX5_isOfTwoCells_7 : decode cX5_isOfTwoCells 7 = .ok (.bipush 105, 2) := by decide +kernel
theorem dX5_isOfTwoCells_9 : decode cX5_isOfTwoCells 9 = .ok (.if_icmp .eq 9, 3) := by decide +kernel
theorem dX5_isOfTwoCells_12 : decode cX5_isOfTwoCells 12 = .ok (.iload_n 0, 1) := by decide +kernel
theorem dX5_isOfTwoCells_13 : decode cX5_isOfTwoCells 13 = .ok (.bipush 97, 2) := by decide +kernel
theorem dX5_isOfTwoCells_15 : decode cX5_isOfTwoCells 15 = .ok (.if_icmp .ne 7, 3) := by decide +kernel
theorem dX5_isOfTwoCells_18 : decode cX5_isOfTwoCells 18 = .ok (.iconst 1, 1) := by decide +kernel
theorem dX5_isOfTwoCells_19 : decode cX5_isOfTwoCells 19 = .ok (.goto 4, 3) := by decide +kernel
theorem dX5_isOfTwoCells_22 : decode cX5_isOfTwoCells 22 = .ok (.iconst 0, 1) := by decide +kernel
theorem dX5_isOfTwoCells_23 : decode cX5_isOfTwoCells 23 = .ok (.ireturn, 1) := by decide +kernel
theorem dX5_isSign_0 : decode cX5_isSign 0 = .ok (.iload_n 0, 1) := by decide +kernel
theorem dX5_isSign_1 : decode cX5_isSign 1 = .ok (.invokestatic 23, 3) := by decide +kernel
theorem dX5_isSign_4 : decode cX5_isSign 4 = .ok (.ifCond .ne 22, 3) := by decide +kernel
theorem dX5_isSign_7 : decode cX5_isSign 7 = .ok (.iload_n 0, 1) := by decide +kernel
theorem dX5_isSign_8 : decode cX5_isSign 8 = .ok (.invokestatic 27, 3) := by decide +kernel
theorem dX5_isSign_11 : decode cX5_isSign 11 = .ok (.ifCond .ne 15, 3) := by decide +kernel
theorem dX5_isSign_14 : decode cX5_isSign 14 = .ok (.iload_n 0, 1) := by decide +kernel
theorem dX5_isSign_15 : decode cX5_isSign 15 = .ok (.bipush 122, 2) := by decide +kernel
theorem dX5_isSign_17 : decode cX5_isSign 17 = .ok (.if_icmp .eq 9, 3) := by decide +kernel
theorem dX5_isSign_20 : decode cX5_isSign 20 = .ok (.iload_n 0, 1) := by decide +kernel
theorem dX5_isSign_21 : decode cX5_isSign 21 = .ok (.bipush 111, 2) := by decide +kernel
theorem dX5_isSign_23 : decode cX5_isSign 23 = .ok (.if_icmp .ne 7, 3) := by decide +kernel
theorem dX5_isSign_26 : decode cX5_isSign 26 = .ok (.iconst 1, 1) := by decide +kernel
theorem dX5_isSign_27 : decode cX5_isSign 27 = .ok (.goto 4, 3) := by decide +kernel
theorem dX5_isSign_30 : decode cX5_isSign 30 = .ok (.iconst 0, 1) := by decide +kernel
theorem dX5_isSign_31 : decode cX5_isSign 31 = .ok (.ireturn, 1) := by decide +kernel
theorem dX5_isWrite_0 : decode cX5_isWrite 0 = .ok (.iload_n 0, 1) := by decide +kernel
theorem dX5_isWrite_1 : decode cX5_isWrite 1 = .ok (.bipush 48, 2) := by decide +kernel
theorem dX5_isWrite_3 : decode cX5_isWrite 3 = .ok (.if_icmp .eq 9, 3) := by decide +kernel
theorem dX5_isWrite_6 : decode cX5_isWrite 6 = .ok (.iload_n 0, 1) := by decide +kernel
theorem dX5_isWrite_7 : decode cX5_isWrite 7 = .ok (.bipush 49, 2) := by decide +kernel
theorem dX5_isWrite_9 : decode cX5_isWrite 9 = .ok (.if_icmp .ne 7, 3) := by decide +kernel
theorem dX5_isWrite_12 : decode cX5_isWrite 12 = .ok (.iconst 1, 1) := by decide +kernel
theorem dX5_isWrite_13 : decode cX5_isWrite 13 = .ok (.goto 4, 3) := by decide +kernel
theorem dX5_isWrite_16 : decode cX5_isWrite 16 = .ok (.iconst 0, 1) := by decide +kernel
theorem dX5_isWrite_17 : decode cX5_isWrite 17 = .ok (.ireturn, 1) := by decide +kernel
theorem dX5_type_0 : decode cX5_type 0 = .ok (.aload_n 0, 1) := by decide +kernel
theorem dX5_type_1 : decode cX5_type 1 = .ok (.getfield 11, 3) := by decide +kernel
theorem dX5_type_4 : decode cX5_type 4 = .ok (.aload_n 0, 1) := by decide +kernel
theorem dX5_type_5 : decode cX5_type 5 = .ok (.getfield 36, 3) := by decide +kernel
theorem dX5_type_8 : decode cX5_type 8 = .ok (.iload_n 1, 1) := by decide +kernel
theorem dX5_type_9 : decode cX5_type 9 = .ok (.castore, 1) := by decide +kernel
theorem dX5_type_10 : decode cX5_type 10 = .ok (.aload_n 0, 1) := by decide +kernel
theorem dX5_type_11 : decode cX5_type 11 = .ok (.dup, 1) := by decide +kernel
theorem dX5_type_12 : decode cX5_type 12 = .ok (.getfield 36, 3) := by decide +kernel
theorem dX5_type_15 : decode cX5_type 15 = .ok (.iconst 1, 1) := by decide +kernel
theorem dX5_type_16 : decode cX5_type 16 = .ok (.iadd, 1) := by decide +kernel
theorem dX5_type_17 : decode cX5_type 17 = .ok (.putfield 36, 3) := by decide +kernel
theorem dX5_type_20 : decode cX5_type 20 = .ok (.aload_n 0, 1) := by decide +kernel
theorem dX5_type_21 : decode cX5_type 21 = .ok (.getfield 36, 3) := by decide +kernel
theorem dX5_type_24 : decode cX5_type 24 = .ok (.ireturn, 1) := by decide +kernel
set_option maxHeartbeats 4000000 in
set_option maxRecDepth 100000 in
theorem k_X6_addSource_v1 (l : Launch) (D : va_G) (g : Nat → ClassId) (z0 sz : Nat) (a : Nat → Nat) : Met l yX6_addSource (.code yX6_addSource cX6_addSource 3 (some .int) :: TG) (rmk 0 0 0 0) (va_Pc [.ref (a 1), .int 0] (PP D g z0 sz [((a 1), f_net a), ((a 12), .inl (g 2, 40, .inl (fun _ => 0))), ((a 19), .inl (g 1, 40, .inr (.inl (fun _ => 0)))), ((a 18), .inl (g 0, 40, .inl (fun _ => (-1))))])) (va_Qi (fun (r : Int32) (u : Unit) => (r = 0) ∧ True) (fun (u : Unit) (t : State) => va_P D vwCl [((a 1), .inr (12, [.ref (a 12), .ref (a 13), .ref (a 14), .ref (a 15), .ref (a 16), .ref (a 17), .ref (a 18), .ref (a 19), .ref (a 20), .ref (a 21), .ref (a 22), .ref (a 23), .int 1, .int 1, .int 0, .int 0, .int 0, .int 0])), ((a 12), .inl (g 2, 40, .inl (upd (fun _ => 0) (0 : Int32).toNatClampNeg (vp_nar .char 105)))), ((a 19), .inl (g 1, 40, .inr (.inl (vp_updL (fun _ => 0) (0 : Int32).toNatClampNeg 1)))), ((a 18), .inl (g 0, 40, .inl (upd (fun _ => (-1)) (0 : Int32).toNatClampNeg 0)))] t.heap ∧ va_D (va_A [((a 1), f_net a), ((a 12), .inl (g 2, 40, .inl (fun _ => 0))), ((a 19), .inl (g 1, 40, .inr (.inl (fun _ => 0)))), ((a 18), .inl (g 0, 40, .inl (fun _ => (-1))))] sz) [((a 1), .inr (12, [.ref (a 12), .ref (a 13), .ref (a 14), .ref (a 15), .ref (a 16), .ref (a 17), .ref (a 18), .ref (a 19), .ref (a 20), .ref (a 21), .ref (a 22), .ref (a 23), .int 1, .int 1, .int 0, .int 0, .int 0, .int 0])), ((a 12), .inl (g 2, 40, .inl (upd (fun _ => 0) (0 : Int32).toNatClampNeg (vp_nar .char 105)))), ((a 19), .inl (g 1, 40, .inr (.inl (vp_updL (fun _ => 0) (0 : Int32).toNatClampNeg 1)))), ((a 18), .inl (g 0, 40, .inl (upd (fun _ => (-1)) (0 : Int32).toNatClampNeg 0)))]) (va_A [((a 1), f_net a), ((a 12), .inl (g 2, 40, .inl (fun _ => 0))), ((a 19), .inl (g 1, 40, .inr (.inl (fun _ => 0)))), ((a 18), .inl (g 0, 40, .inl (fun _ => (-1))))] sz)) 0 0 (va_A [((a 1), f_net a), ((a 12), .inl (g 2, 40, .inl (fun _ => 0))), ((a 19), .inl (g 1, 40, .inr (.inl (fun _ => 0)))), ((a 18), .inl (g 0, 40, .inl (fun _ => (-1))))] sz) := by
  refine met0 (cc := cX6_addSource) (n := 3) (by decide) (Nat.le_of_ble_eq_true rfl) ?_
  intro p e s m args below meth c hx hb hr hml hown ht hlocks hnm hP0 hD0 hK hZ hsz hz ls hl
  subst hsz
  have hA : ∀ q : Nat, s.heap.size ≤ q → va_A [((a 1), f_net a), ((a 12), .inl (g 2, 40, .inl (fun _ => 0))), ((a 19), .inl (g 1, 40, .inr (.inl (fun _ => 0)))), ((a 18), .inl (g 0, 40, .inl (fun _ => (-1))))] s.heap.size q := Anw
  have hAz : ∀ q, va_A [((a 1), f_net a), ((a 12), .inl (g 2, 40, .inl (fun _ => 0))), ((a 19), .inl (g 1, 40, .inr (.inl (fun _ => 0)))), ((a 18), .inl (g 0, 40, .inl (fun _ => (-1))))] s.heap.size q → z0 ≤ q := Awz hz hD0
  have hS : va_S (va_A [((a 1), f_net a), ((a 12), .inl (g 2, 40, .inl (fun _ => 0))), ((a 19), .inl (g 1, 40, .inr (.inl (fun _ => 0)))), ((a 18), .inl (g 0, 40, .inl (fun _ => (-1))))] s.heap.size) s.heap s.heap [] := va_S.rf
  have hD : va_D (va_A [((a 1), f_net a), ((a 12), .inl (g 2, 40, .inl (fun _ => 0))), ((a 19), .inl (g 1, 40, .inr (.inl (fun _ => 0)))), ((a 18), .inl (g 0, 40, .inl (fun _ => (-1))))] s.heap.size) [((a 1), f_net a), ((a 12), .inl (g 2, 40, .inl (fun _ => 0))), ((a 19), .inl (g 1, 40, .inr (.inl (fun _ => 0)))), ((a 18), .inl (g 0, 40, .inl (fun _ => (-1))))] := hD0.self
  have hP : va_P D vwCl [((a 1), f_net a), ((a 12), .inl (g 2, 40, .inl (fun _ => 0))), ((a 19), .inl (g 1, 40, .inr (.inl (fun _ => 0)))), ((a 18), .inl (g 0, 40, .inl (fun _ => (-1))))] s.heap := hP0
  have hl : lv_has ls 3 [(0, .ref (a 1)), (1, .int 0)] := hl
  refine lv_aload_n hx hb dX6_addSource_0 rfl (lv_at hl 0 rfl) ?_
  refine va_get (D := D) (ci := 12) (v := .int 0) (C := RX6) (T := TX6) (N := 18) hx hb ht in_X6 hown hK.1 hP 0 rfl rfl 12 (by decide) (ht _ w_124) (fun _ h9 => h9) rfl dX6_addSource_1 ?_
  refine lv_istore_n (lv' := [(2, .int 0), (0, .ref (a 1)), (1, .int 0)]) hx hb dX6_addSource_4 rfl hl (by decide) rfl (fun ls hl => ?_)
  refine lv_aload_n hx hb dX6_addSource_5 rfl (lv_at hl 1 rfl) ?_
  refine va_get (D := D) (ci := 12) (v := .ref (a 12)) (C := RX6) (T := TX6) (N := 18) hx hb ht in_X6 hown hK.1 hP 0 rfl rfl 0 (by decide) (ht _ w_125) (fun _ h9 => h9) rfl dX6_addSource_6 ?_
  refine lv_iload_n hx hb dX6_addSource_9 rfl (lv_at hl 0 rfl) ?_
  refine lv_iload_n hx hb dX6_addSource_10 rfl (lv_at hl 2 rfl) ?_
  refine lv_if_eq (tgt := 19) hx hb dX6_addSource_11 (by decide) (fun c_1 => ?_) (fun c_1 => ?_)
  · refine lv_bipush (v := 105) hx hb dX6_addSource_19 (by decide) ?_
    refine va_cast hx hb hK.1 hP hD hS 1 2 rfl rfl (by unfold vp_in; decide) dX6_addSource_21 (fun H locs hP hD hS => ?_)
    have hP : va_P D vwCl [((a 1), f_net a), ((a 12), .inl (g 2, 40, .inl (upd (fun _ => 0) (0 : Int32).toNatClampNeg (vp_nar .char 105)))), ((a 19), .inl (g 1, 40, .inr (.inl (fun _ => 0)))), ((a 18), .inl (g 0, 40, .inl (fun _ => (-1))))] H := hP
    have hD : va_D (va_A [((a 1), f_net a), ((a 12), .inl (g 2, 40, .inl (fun _ => 0))), ((a 19), .inl (g 1, 40, .inr (.inl (fun _ => 0)))), ((a 18), .inl (g 0, 40, .inl (fun _ => (-1))))] s.heap.size) [((a 1), f_net a), ((a 12), .inl (g 2, 40, .inl (upd (fun _ => 0) (0 : Int32).toNatClampNeg (vp_nar .char 105)))), ((a 19), .inl (g 1, 40, .inr (.inl (fun _ => 0)))), ((a 18), .inl (g 0, 40, .inl (fun _ => (-1))))] := hD
    refine lv_aload_n hx hb dX6_addSource_22 rfl (lv_at hl 1 rfl) ?_
    refine va_get (D := D) (ci := 12) (v := .ref (a 19)) (C := RX6) (T := TX6) (N := 18) hx hb ht in_X6 hown hK.1 hP 0 rfl rfl 7 (by decide) (ht _ w_126) (fun _ h9 => h9) rfl dX6_addSource_23 ?_
    refine lv_iload_n hx hb dX6_addSource_26 rfl (lv_at hl 0 rfl) ?_
    refine lv_lconst (v := 1) hx hb dX6_addSource_27 (by decide) ?_
    refine lv_iload_n hx hb dX6_addSource_28 rfl (lv_at hl 0 rfl) ?_
    refine lv_lshl (v := 1) hx hb dX6_addSource_29 (by decide) ?_
    refine va_last hx hb hK.1 hP hD hS 2 1 rfl rfl (by unfold vp_in; decide) dX6_addSource_30 (fun H locs hP hD hS => ?_)
    have hP : va_P D vwCl [((a 1), f_net a), ((a 12), .inl (g 2, 40, .inl (upd (fun _ => 0) (0 : Int32).toNatClampNeg (vp_nar .char 105)))), ((a 19), .inl (g 1, 40, .inr (.inl (vp_updL (fun _ => 0) (0 : Int32).toNatClampNeg 1)))), ((a 18), .inl (g 0, 40, .inl (fun _ => (-1))))] H := hP
    have hD : va_D (va_A [((a 1), f_net a), ((a 12), .inl (g 2, 40, .inl (fun _ => 0))), ((a 19), .inl (g 1, 40, .inr (.inl (fun _ => 0)))), ((a 18), .inl (g 0, 40, .inl (fun _ => (-1))))] s.heap.size) [((a 1), f_net a), ((a 12), .inl (g 2, 40, .inl (upd (fun _ => 0) (0 : Int32).toNatClampNeg (vp_nar .char 105)))), ((a 19), .inl (g 1, 40, .inr (.inl (vp_updL (fun _ => 0) (0 : Int32).toNatClampNeg 1)))), ((a 18), .inl (g 0, 40, .inl (fun _ => (-1))))] := hD
    refine lv_aload_n hx hb dX6_addSource_31 rfl (lv_at hl 1 rfl) ?_
    refine va_get (D := D) (ci := 12) (v := .ref (a 18)) (C := RX6) (T := TX6) (N := 18) hx hb ht in_X6 hown hK.1 hP 0 rfl rfl 6 (by decide) (ht _ w_127) (fun _ h9 => h9) rfl dX6_addSource_32 ?_
    refine lv_iload_n hx hb dX6_addSource_35 rfl (lv_at hl 0 rfl) ?_
    refine lv_aload_n hx hb dX6_addSource_36 rfl (lv_at hl 1 rfl) ?_
    refine va_get (D := D) (ci := 12) (v := .int 0) (C := RX6) (T := TX6) (N := 18) hx hb ht in_X6 hown hK.1 hP 0 rfl rfl 13 (by decide) (ht _ w_128) (fun _ h9 => h9) rfl dX6_addSource_37 ?_
    refine va_iast hx hb hK.1 hP hD hS 3 0 rfl rfl (by unfold vp_in; decide) dX6_addSource_40 (fun H locs hP hD hS => ?_)
    have hP : va_P D vwCl [((a 1), f_net a), ((a 12), .inl (g 2, 40, .inl (upd (fun _ => 0) (0 : Int32).toNatClampNeg (vp_nar .char 105)))), ((a 19), .inl (g 1, 40, .inr (.inl (vp_updL (fun _ => 0) (0 : Int32).toNatClampNeg 1)))), ((a 18), .inl (g 0, 40, .inl (upd (fun _ => (-1)) (0 : Int32).toNatClampNeg 0)))] H := hP
    have hD : va_D (va_A [((a 1), f_net a), ((a 12), .inl (g 2, 40, .inl (fun _ => 0))), ((a 19), .inl (g 1, 40, .inr (.inl (fun _ => 0)))), ((a 18), .inl (g 0, 40, .inl (fun _ => (-1))))] s.heap.size) [((a 1), f_net a), ((a 12), .inl (g 2, 40, .inl (upd (fun _ => 0) (0 : Int32).toNatClampNeg (vp_nar .char 105)))), ((a 19), .inl (g 1, 40, .inr (.inl (vp_updL (fun _ => 0) (0 : Int32).toNatClampNeg 1)))), ((a 18), .inl (g 0, 40, .inl (upd (fun _ => (-1)) (0 : Int32).toNatClampNeg 0)))] := hD
    refine lv_aload_n hx hb dX6_addSource_41 rfl (lv_at hl 1 rfl) ?_
    refine lv_dup hx hb dX6_addSource_42 rfl ?_
    refine va_get (D := D) (ci := 12) (v := .int 0) (C := RX6) (T := TX6) (N := 18) hx hb ht in_X6 hown hK.1 hP 0 rfl rfl 13 (by decide) (ht _ w_128) (fun _ h9 => h9) rfl dX6_addSource_43 ?_
    refine lv_iconst (v := 1) hx hb dX6_addSource_46 (by decide) ?_
    refine lv_iadd hx hb dX6_addSource_47 ?_
    refine r_topi (v := 1) (by decide) ?_
    refine va_put (D := D) (ci := 12) (v := .int 1) (ty := .int) (C := RX6) (T := TX6) (N := 18) hx hb ht in_X6 tyX6 tyX6_ok nmX6 hown hK.1 hP hD hS 0 rfl rfl 13 (by decide) (ht _ w_128) (fun _ h9 => h9) rfl (by decide +kernel) rfl rfl (Nat.le_of_ble_eq_true rfl) dX6_addSource_48 (fun H locs hP hD hS => ?_)
    have hP : va_P D vwCl [((a 1), .inr (12, [.ref (a 12), .ref (a 13), .ref (a 14), .ref (a 15), .ref (a 16), .ref (a 17), .ref (a 18), .ref (a 19), .ref (a 20), .ref (a 21), .ref (a 22), .ref (a 23), .int 0, .int 1, .int 0, .int 0, .int 0, .int 0])), ((a 12), .inl (g 2, 40, .inl (upd (fun _ => 0) (0 : Int32).toNatClampNeg (vp_nar .char 105)))), ((a 19), .inl (g 1, 40, .inr (.inl (vp_updL (fun _ => 0) (0 : Int32).toNatClampNeg 1)))), ((a 18), .inl (g 0, 40, .inl (upd (fun _ => (-1)) (0 : Int32).toNatClampNeg 0)))] H := hP
    have hD : va_D (va_A [((a 1), f_net a), ((a 12), .inl (g 2, 40, .inl (fun _ => 0))), ((a 19), .inl (g 1, 40, .inr (.inl (fun _ => 0)))), ((a 18), .inl (g 0, 40, .inl (fun _ => (-1))))] s.heap.size) [((a 1), .inr (12, [.ref (a 12), .ref (a 13), .ref (a 14), .ref (a 15), .ref (a 16), .ref (a 17), .ref (a 18), .ref (a 19), .ref (a 20), .ref (a 21), .ref (a 22), .ref (a 23), .int 0, .int 1, .int 0, .int 0, .int 0, .int 0])), ((a 12), .inl (g 2, 40, .inl (upd (fun _ => 0) (0 : Int32).toNatClampNeg (vp_nar .char 105)))), ((a 19), .inl (g 1, 40, .inr (.inl (vp_updL (fun _ => 0) (0 : Int32).toNatClampNeg 1)))), ((a 18), .inl (g 0, 40, .inl (upd (fun _ => (-1)) (0 : Int32).toNatClampNeg 0)))] := hD
    refine lv_iload_n hx hb dX6_addSource_51 rfl (lv_at hl 2 rfl) ?_
    refine lv_if_eq (tgt := 75) hx hb dX6_addSource_52 (by decide) (fun c_2 => ?_) (fun c_2 => ?_)
    · refine lv_aload_n hx hb dX6_addSource_75 rfl (lv_at hl 1 rfl) ?_
      refine lv_dup hx hb dX6_addSource_76 rfl ?_
      refine va_get (D := D) (ci := 12) (v := .int 0) (C := RX6) (T := TX6) (N := 18) hx hb ht in_X6 hown hK.1 hP 0 rfl rfl 12 (by decide) (ht _ w_124) (fun _ h9 => h9) rfl dX6_addSource_77 ?_
      refine lv_iconst (v := 1) hx hb dX6_addSource_80 (by decide) ?_
      refine lv_iadd hx hb dX6_addSource_81 ?_
      refine r_topi (v := 1) (by decide) ?_
      refine va_put (D := D) (ci := 12) (v := .int 1) (ty := .int) (C := RX6) (T := TX6) (N := 18) hx hb ht in_X6 tyX6 tyX6_ok nmX6 hown hK.1 hP hD hS 0 rfl rfl 12 (by decide) (ht _ w_124) (fun _ h9 => h9) rfl (by decide +kernel) rfl rfl (Nat.le_of_ble_eq_true rfl) dX6_addSource_82 (fun H locs hP hD hS => ?_)
      have hP : va_P D vwCl [((a 1), .inr (12, [.ref (a 12), .ref (a 13), .ref (a 14), .ref (a 15), .ref (a 16), .ref (a 17), .ref (a 18), .ref (a 19), .ref (a 20), .ref (a 21), .ref (a 22), .ref (a 23), .int 1, .int 1, .int 0, .int 0, .int 0, .int 0])), ((a 12), .inl (g 2, 40, .inl (upd (fun _ => 0) (0 : Int32).toNatClampNeg (vp_nar .char 105)))), ((a 19), .inl (g 1, 40, .inr (.inl (vp_updL (fun _ => 0) (0 : Int32).toNatClampNeg 1)))), ((a 18), .inl (g 0, 40, .inl (upd (fun _ => (-1)) (0 : Int32).toNatClampNeg 0)))] H := hP
      have hD : va_D (va_A [((a 1), f_net a), ((a 12), .inl (g 2, 40, .inl (fun _ => 0))), ((a 19), .inl (g 1, 40, .inr (.inl (fun _ => 0)))), ((a 18), .inl (g 0, 40, .inl (fun _ => (-1))))] s.heap.size) [((a 1), .inr (12, [.ref (a 12), .ref (a 13), .ref (a 14), .ref (a 15), .ref (a 16), .ref (a 17), .ref (a 18), .ref (a 19), .ref (a 20), .ref (a 21), .ref (a 22), .ref (a 23), .int 1, .int 1, .int 0, .int 0, .int 0, .int 0])), ((a 12), .inl (g 2, 40, .inl (upd (fun _ => 0) (0 : Int32).toNatClampNeg (vp_nar .char 105)))), ((a 19), .inl (g 1, 40, .inr (.inl (vp_updL (fun _ => 0) (0 : Int32).toNatClampNeg 1)))), ((a 18), .inl (g 0, 40, .inl (upd (fun _ => (-1)) (0 : Int32).toNatClampNeg 0)))] := hD
      refine lv_iload_n hx hb dX6_addSource_85 rfl (lv_at hl 0 rfl) ?_
      have hP9 := hP.sub (ws' := [((a 1), .inr (12, [.ref (a 12), .ref (a 13), .ref (a 14), .ref (a 15), .ref (a 16), .ref (a 17), .ref (a 18), .ref (a 19), .ref (a 20), .ref (a 21), .ref (a 22), .ref (a 23), .int 1, .int 1, .int 0, .int 0, .int 0, .int 0])), ((a 12), .inl (g 2, 40, .inl (upd (fun _ => 0) (0 : Int32).toNatClampNeg (vp_nar .char 105)))), ((a 19), .inl (g 1, 40, .inr (.inl (vp_updL (fun _ => 0) (0 : Int32).toNatClampNeg 1)))), ((a 18), .inl (g 0, 40, .inl (upd (fun _ => (-1)) (0 : Int32).toNatClampNeg 0)))]) [0, 1, 2, 3] rfl
      have hD9 := hD.sub (ws' := [((a 1), .inr (12, [.ref (a 12), .ref (a 13), .ref (a 14), .ref (a 15), .ref (a 16), .ref (a 17), .ref (a 18), .ref (a 19), .ref (a 20), .ref (a 21), .ref (a 22), .ref (a 23), .int 1, .int 1, .int 0, .int 0, .int 0, .int 0])), ((a 12), .inl (g 2, 40, .inl (upd (fun _ => 0) (0 : Int32).toNatClampNeg (vp_nar .char 105)))), ((a 19), .inl (g 1, 40, .inr (.inl (vp_updL (fun _ => 0) (0 : Int32).toNatClampNeg 1)))), ((a 18), .inl (g 0, 40, .inl (upd (fun _ => (-1)) (0 : Int32).toNatClampNeg 0)))]) [0, 1, 2, 3] (by decide) rfl
      refine W.widen (k := 0) (n := 0) (Nat.le_of_ble_eq_true rfl) (Nat.le_of_ble_eq_true rfl) ?_
      exact W.iret (v := 0) hx hb hr (fun t ht9 hW9 => ⟨⟨0, (), rfl, ⟨rfl, trivial⟩, ⟨(by rw [ht9]; exact hP9), hD9⟩⟩, hS.F ht9⟩) hS.2.2 dX6_addSource_86 hlocks
    · exact absurd c_2 (by decide)
  · exact absurd c_1 (by decide)
set_option maxHeartbeats 4000000 in
set_option maxRecDepth 100000 in
theorem k_X11_addSource_v1 (l : Launch) (D : va_G) (g : Nat → ClassId) (z0 sz : Nat) (a : Nat → Nat) : Met l yX11_addSource (.code yX11_addSource cX11_addSource 2 (some .int) :: TG) (rmk 1 0 0 22) (va_Pc [.ref (a 0), .int 0] (PP D g z0 sz [((a 0), f_x a), ((a 1), f_net a), ((a 12), .inl (g 2, 40, .inl (fun _ => 0))), ((a 19), .inl (g 1, 40, .inr (.inl (fun _ => 0)))), ((a 18), .inl (g 0, 40, .inl (fun _ => (-1))))])) (va_Qi (fun (r : Int32) (u : Unit) => (r = 0) ∧ True) (fun (u : Unit) (t : State) => va_P D vwCl [((a 0), f_x a), ((a 1), .inr (12, [.ref (a 12), .ref (a 13), .ref (a 14), .ref (a 15), .ref (a 16), .ref (a 17), .ref (a 18), .ref (a 19), .ref (a 20), .ref (a 21), .ref (a 22), .ref (a 23), .int 1, .int 1, .int 0, .int 0, .int 0, .int 0])), ((a 12), .inl (g 2, 40, .inl (upd (fun _ => 0) (0 : Int32).toNatClampNeg (vp_nar .char 105)))), ((a 19), .inl (g 1, 40, .inr (.inl (vp_updL (fun _ => 0) (0 : Int32).toNatClampNeg 1)))), ((a 18), .inl (g 0, 40, .inl (upd (fun _ => (-1)) (0 : Int32).toNatClampNeg 0)))] t.heap ∧ va_D (va_A [((a 0), f_x a), ((a 1), f_net a), ((a 12), .inl (g 2, 40, .inl (fun _ => 0))), ((a 19), .inl (g 1, 40, .inr (.inl (fun _ => 0)))), ((a 18), .inl (g 0, 40, .inl (fun _ => (-1))))] sz) [((a 0), f_x a), ((a 1), .inr (12, [.ref (a 12), .ref (a 13), .ref (a 14), .ref (a 15), .ref (a 16), .ref (a 17), .ref (a 18), .ref (a 19), .ref (a 20), .ref (a 21), .ref (a 22), .ref (a 23), .int 1, .int 1, .int 0, .int 0, .int 0, .int 0])), ((a 12), .inl (g 2, 40, .inl (upd (fun _ => 0) (0 : Int32).toNatClampNeg (vp_nar .char 105)))), ((a 19), .inl (g 1, 40, .inr (.inl (vp_updL (fun _ => 0) (0 : Int32).toNatClampNeg 1)))), ((a 18), .inl (g 0, 40, .inl (upd (fun _ => (-1)) (0 : Int32).toNatClampNeg 0)))]) (va_A [((a 0), f_x a), ((a 1), f_net a), ((a 12), .inl (g 2, 40, .inl (fun _ => 0))), ((a 19), .inl (g 1, 40, .inr (.inl (fun _ => 0)))), ((a 18), .inl (g 0, 40, .inl (fun _ => (-1))))] sz)) 0 0 (va_A [((a 0), f_x a), ((a 1), f_net a), ((a 12), .inl (g 2, 40, .inl (fun _ => 0))), ((a 19), .inl (g 1, 40, .inr (.inl (fun _ => 0)))), ((a 18), .inl (g 0, 40, .inl (fun _ => (-1))))] sz) := by
  refine met0 (cc := cX11_addSource) (n := 2) (by decide) (Nat.le_of_ble_eq_true rfl) ?_
  intro p e s m args below meth c hx hb hr hml hown ht hlocks hnm hP0 hD0 hK hZ hsz hz ls hl
  subst hsz
  have hA : ∀ q : Nat, s.heap.size ≤ q → va_A [((a 0), f_x a), ((a 1), f_net a), ((a 12), .inl (g 2, 40, .inl (fun _ => 0))), ((a 19), .inl (g 1, 40, .inr (.inl (fun _ => 0)))), ((a 18), .inl (g 0, 40, .inl (fun _ => (-1))))] s.heap.size q := Anw
  have hAz : ∀ q, va_A [((a 0), f_x a), ((a 1), f_net a), ((a 12), .inl (g 2, 40, .inl (fun _ => 0))), ((a 19), .inl (g 1, 40, .inr (.inl (fun _ => 0)))), ((a 18), .inl (g 0, 40, .inl (fun _ => (-1))))] s.heap.size q → z0 ≤ q := Awz hz hD0
  have hS : va_S (va_A [((a 0), f_x a), ((a 1), f_net a), ((a 12), .inl (g 2, 40, .inl (fun _ => 0))), ((a 19), .inl (g 1, 40, .inr (.inl (fun _ => 0)))), ((a 18), .inl (g 0, 40, .inl (fun _ => (-1))))] s.heap.size) s.heap s.heap [] := va_S.rf
  have hD : va_D (va_A [((a 0), f_x a), ((a 1), f_net a), ((a 12), .inl (g 2, 40, .inl (fun _ => 0))), ((a 19), .inl (g 1, 40, .inr (.inl (fun _ => 0)))), ((a 18), .inl (g 0, 40, .inl (fun _ => (-1))))] s.heap.size) [((a 0), f_x a), ((a 1), f_net a), ((a 12), .inl (g 2, 40, .inl (fun _ => 0))), ((a 19), .inl (g 1, 40, .inr (.inl (fun _ => 0)))), ((a 18), .inl (g 0, 40, .inl (fun _ => (-1))))] := hD0.self
  have hP : va_P D vwCl [((a 0), f_x a), ((a 1), f_net a), ((a 12), .inl (g 2, 40, .inl (fun _ => 0))), ((a 19), .inl (g 1, 40, .inr (.inl (fun _ => 0)))), ((a 18), .inl (g 0, 40, .inl (fun _ => (-1))))] s.heap := hP0
  have hl : lv_has ls 2 [(0, .ref (a 0)), (1, .int 0)] := hl
  refine lv_aload_n hx hb dX11_addSource_0 rfl (lv_at hl 0 rfl) ?_
  have hPc : va_P D vwCl [((a 0), f_x a), ((a 1), f_net a)] _ := hP.sub (ws' := [((a 0), f_x a), ((a 1), f_net a)]) [0, 1] rfl
  have hDc : va_D (fun q => z0 ≤ q) [((a 0), f_x a), ((a 1), f_net a)] := (hD.to hAz).pick (ws' := [((a 0), f_x a), ((a 1), f_net a)]) [0, 1] (by decide) rfl
  have hFc := AnA (ws := [((a 0), f_x a), ((a 1), f_net a), ((a 12), .inl (g 2, 40, .inl (fun _ => 0))), ((a 19), .inl (g 1, 40, .inr (.inl (fun _ => 0)))), ((a 18), .inl (g 0, 40, .inl (fun _ => (-1))))]) hS.1
  refine va_callv (va_runV (As := []) (rest := []) ⟨hx, hb, hml, hown, ht⟩ (k_X11_needOpenNet l D g z0 _ a) (cwV 0 ht (gV w_119 w_121 w_122 w_31 w_120) rfl rfl rfl (by decide +kernel) (le2 rfl rfl)) ⟨PP.blind, va_recv hK.1 hP (ci := 17) (q0 := 0) rfl rfl, PP.mk' hK hZ hz hAz hS hPc hDc⟩ rfl rfl hl.1 rfl (lv_room (Nat.le_of_ble_eq_true rfl)) dX11_addSource_1 (le2 rfl rfl)) hS (fun q _ h => hFc q h) hFc (fun u t H locs ht1 hvm hw hB hz1 hk1 hS => ?_)
  have hP := ro1 hP hk1
  refine lv_aload_n hx hb dX11_addSource_4 rfl (lv_at hl 0 rfl) ?_
  refine va_get (D := D) (ci := 17) (v := .ref (a 1)) (C := RX11) (T := TX11) (N := 11) hx hb ht in_X11 hown hK.1 hP 0 rfl rfl 0 (by decide) (ht _ w_66) (fun _ h9 => h9) rfl dX11_addSource_5 ?_
  refine va_get (D := D) (ci := 12) (v := .int 0) (C := RX6) (T := TX6) (N := 18) hx hb ht in_X6 hown hK.1 hP 1 rfl rfl 12 (by decide) (ht _ w_79) (fun _ h9 => h9) rfl dX11_addSource_8 ?_
  refine lv_bipush (v := 40) hx hb dX11_addSource_11 (by decide) ?_
  refine lv_icmp_ge (tgt := 28) hx hb dX11_addSource_13 (by decide) (fun c_1 => ?_) (fun c_1 => ?_)
  · exact absurd c_1 (by decide)
  · refine lv_aload_n hx hb dX11_addSource_16 rfl (lv_at hl 0 rfl) ?_
    refine va_get (D := D) (ci := 17) (v := .ref (a 1)) (C := RX11) (T := TX11) (N := 11) hx hb ht in_X11 hown hK.1 hP 0 rfl rfl 0 (by decide) (ht _ w_66) (fun _ h9 => h9) rfl dX11_addSource_17 ?_
    refine va_get (D := D) (ci := 12) (v := .int 0) (C := RX6) (T := TX6) (N := 18) hx hb ht in_X6 hown hK.1 hP 1 rfl rfl 13 (by decide) (ht _ w_123) (fun _ h9 => h9) rfl dX11_addSource_20 ?_
    refine lv_bipush (v := 12) hx hb dX11_addSource_23 (by decide) ?_
    refine lv_icmp_lt (tgt := 36) hx hb dX11_addSource_25 (by decide) (fun c_2 => ?_) (fun c_2 => ?_)
    · refine lv_aload_n hx hb dX11_addSource_36 rfl (lv_at hl 0 rfl) ?_
      refine va_get (D := D) (ci := 17) (v := .ref (a 1)) (C := RX11) (T := TX11) (N := 11) hx hb ht in_X11 hown hK.1 hP 0 rfl rfl 0 (by decide) (ht _ w_66) (fun _ h9 => h9) rfl dX11_addSource_37 ?_
      refine lv_iload_n hx hb dX11_addSource_40 rfl (lv_at hl 1 rfl) ?_
      have hPc : va_P D vwCl [((a 1), f_net a), ((a 12), .inl (g 2, 40, .inl (fun _ => 0))), ((a 19), .inl (g 1, 40, .inr (.inl (fun _ => 0)))), ((a 18), .inl (g 0, 40, .inl (fun _ => (-1))))] _ := hP.sub (ws' := [((a 1), f_net a), ((a 12), .inl (g 2, 40, .inl (fun _ => 0))), ((a 19), .inl (g 1, 40, .inr (.inl (fun _ => 0)))), ((a 18), .inl (g 0, 40, .inl (fun _ => (-1))))]) [1, 2, 3, 4] rfl
      have hDc : va_D (fun q => z0 ≤ q) [((a 1), f_net a), ((a 12), .inl (g 2, 40, .inl (fun _ => 0))), ((a 19), .inl (g 1, 40, .inr (.inl (fun _ => 0)))), ((a 18), .inl (g 0, 40, .inl (fun _ => (-1))))] := (hD.to hAz).pick (ws' := [((a 1), f_net a), ((a 12), .inl (g 2, 40, .inl (fun _ => 0))), ((a 19), .inl (g 1, 40, .inr (.inl (fun _ => 0)))), ((a 18), .inl (g 0, 40, .inl (fun _ => (-1))))]) [1, 2, 3, 4] (by decide) rfl
      have hFc := va_free (wc := [((a 1), f_net a), ((a 12), .inl (g 2, 40, .inl (fun _ => 0))), ((a 19), .inl (g 1, 40, .inr (.inl (fun _ => 0)))), ((a 18), .inl (g 0, 40, .inl (fun _ => (-1))))]) hD hS hA [1, 2, 3, 4] rfl
      refine va_calli (va_runV (As := [.int 0]) (rest := []) ⟨hx, hb, hml, hown, ht⟩ (k_X6_addSource_v1 l D g z0 _ a) (cwV 1 ht (gV w_131 w_133 w_134 w_135 w_132) rfl rfl rfl (by decide +kernel) (le2 rfl rfl)) ⟨PP.blind, va_recv hK.1 hP (ci := 12) (q0 := 1) rfl rfl, PP.mk' hK hZ hz hAz hS hPc hDc⟩ rfl rfl hl.1 rfl (lv_room (Nat.le_of_ble_eq_true rfl)) dX11_addSource_41 (le2 rfl rfl)) hS (fun q _ h => hFc q h) hFc (fun r u t H locs ht1 hvm hw hB hz1 hk1 hS => ?_)
      obtain ⟨rfl, hw⟩ := hw
      obtain ⟨hP1, hD1⟩ := hB
      rw [ht1] at hP1
      obtain ⟨hP, hD⟩ := va_join (wr := [((a 0), f_x a)]) (w1 := [((a 1), .inr (12, [.ref (a 12), .ref (a 13), .ref (a 14), .ref (a 15), .ref (a 16), .ref (a 17), .ref (a 18), .ref (a 19), .ref (a 20), .ref (a 21), .ref (a 22), .ref (a 23), .int 1, .int 1, .int 0, .int 0, .int 0, .int 0])), ((a 12), .inl (g 2, 40, .inl (upd (fun _ => 0) (0 : Int32).toNatClampNeg (vp_nar .char 105)))), ((a 19), .inl (g 1, 40, .inr (.inl (vp_updL (fun _ => 0) (0 : Int32).toNatClampNeg 1)))), ((a 18), .inl (g 0, 40, .inl (upd (fun _ => (-1)) (0 : Int32).toNatClampNeg 0)))]) hP hD [1, 2, 3, 4] [0] rfl rfl (by decide) (by decide) hk1 hFc hP1 hD1
      have hP : va_P D vwCl [((a 0), f_x a), ((a 1), .inr (12, [.ref (a 12), .ref (a 13), .ref (a 14), .ref (a 15), .ref (a 16), .ref (a 17), .ref (a 18), .ref (a 19), .ref (a 20), .ref (a 21), .ref (a 22), .ref (a 23), .int 1, .int 1, .int 0, .int 0, .int 0, .int 0])), ((a 12), .inl (g 2, 40, .inl (upd (fun _ => 0) (0 : Int32).toNatClampNeg (vp_nar .char 105)))), ((a 19), .inl (g 1, 40, .inr (.inl (vp_updL (fun _ => 0) (0 : Int32).toNatClampNeg 1)))), ((a 18), .inl (g 0, 40, .inl (upd (fun _ => (-1)) (0 : Int32).toNatClampNeg 0)))] H := hP
      have hD : va_D (va_A [((a 0), f_x a), ((a 1), f_net a), ((a 12), .inl (g 2, 40, .inl (fun _ => 0))), ((a 19), .inl (g 1, 40, .inr (.inl (fun _ => 0)))), ((a 18), .inl (g 0, 40, .inl (fun _ => (-1))))] s.heap.size) [((a 0), f_x a), ((a 1), .inr (12, [.ref (a 12), .ref (a 13), .ref (a 14), .ref (a 15), .ref (a 16), .ref (a 17), .ref (a 18), .ref (a 19), .ref (a 20), .ref (a 21), .ref (a 22), .ref (a 23), .int 1, .int 1, .int 0, .int 0, .int 0, .int 0])), ((a 12), .inl (g 2, 40, .inl (upd (fun _ => 0) (0 : Int32).toNatClampNeg (vp_nar .char 105)))), ((a 19), .inl (g 1, 40, .inr (.inl (vp_updL (fun _ => 0) (0 : Int32).toNatClampNeg 1)))), ((a 18), .inl (g 0, 40, .inl (upd (fun _ => (-1)) (0 : Int32).toNatClampNeg 0)))] := hD
      have hP9 := hP.sub (ws' := [((a 0), f_x a), ((a 1), .inr (12, [.ref (a 12), .ref (a 13), .ref (a 14), .ref (a 15), .ref (a 16), .ref (a 17), .ref (a 18), .ref (a 19), .ref (a 20), .ref (a 21), .ref (a 22), .ref (a 23), .int 1, .int 1, .int 0, .int 0, .int 0, .int 0])), ((a 12), .inl (g 2, 40, .inl (upd (fun _ => 0) (0 : Int32).toNatClampNeg (vp_nar .char 105)))), ((a 19), .inl (g 1, 40, .inr (.inl (vp_updL (fun _ => 0) (0 : Int32).toNatClampNeg 1)))), ((a 18), .inl (g 0, 40, .inl (upd (fun _ => (-1)) (0 : Int32).toNatClampNeg 0)))]) [0, 1, 2, 3, 4] rfl
      have hD9 := hD.sub (ws' := [((a 0), f_x a), ((a 1), .inr (12, [.ref (a 12), .ref (a 13), .ref (a 14), .ref (a 15), .ref (a 16), .ref (a 17), .ref (a 18), .ref (a 19), .ref (a 20), .ref (a 21), .ref (a 22), .ref (a 23), .int 1, .int 1, .int 0, .int 0, .int 0, .int 0])), ((a 12), .inl (g 2, 40, .inl (upd (fun _ => 0) (0 : Int32).toNatClampNeg (vp_nar .char 105)))), ((a 19), .inl (g 1, 40, .inr (.inl (vp_updL (fun _ => 0) (0 : Int32).toNatClampNeg 1)))), ((a 18), .inl (g 0, 40, .inl (upd (fun _ => (-1)) (0 : Int32).toNatClampNeg 0)))]) [0, 1, 2, 3, 4] (by decide) rfl
      refine W.widen (k := 0) (n := 0) (Nat.le_of_ble_eq_true rfl) (Nat.le_of_ble_eq_true rfl) ?_
      exact W.iret (v := 0) hx hb hr (fun t ht9 hW9 => ⟨⟨0, (), rfl, ⟨rfl, trivial⟩, ⟨(by rw [ht9]; exact hP9), hD9⟩⟩, hS.F ht9⟩) hS.2.2 dX11_addSource_44 hlocks
    · exact absurd c_2 (by decide)
set_option maxHeartbeats 4000000 in
set_option maxRecDepth 100000 in
theorem k_X11_input (l : Launch) (D : va_G) (g : Nat → ClassId) (z0 sz : Nat) (a : Nat → Nat) : Met l yX11_input (.code yX11_input cX11_input 1 (some .int) :: TG) (rmk 2 0 0 43) (va_Pc [.ref (a 0)] (PP D g z0 sz [((a 0), f_x a), ((a 1), f_net a), ((a 12), .inl (g 2, 40, .inl (fun _ => 0))), ((a 19), .inl (g 1, 40, .inr (.inl (fun _ => 0)))), ((a 18), .inl (g 0, 40, .inl (fun _ => (-1))))])) (va_Qi (fun (r : Int32) (u : Unit) => (r = 0) ∧ True) (fun (u : Unit) (t : State) => va_P D vwCl [] t.heap ∧ va_D (va_A [((a 0), f_x a), ((a 1), f_net a), ((a 12), .inl (g 2, 40, .inl (fun _ => 0))), ((a 19), .inl (g 1, 40, .inr (.inl (fun _ => 0)))), ((a 18), .inl (g 0, 40, .inl (fun _ => (-1))))] sz) []) (va_A [((a 0), f_x a), ((a 1), f_net a), ((a 12), .inl (g 2, 40, .inl (fun _ => 0))), ((a 19), .inl (g 1, 40, .inr (.inl (fun _ => 0)))), ((a 18), .inl (g 0, 40, .inl (fun _ => (-1))))] sz)) 0 0 (va_A [((a 0), f_x a), ((a 1), f_net a), ((a 12), .inl (g 2, 40, .inl (fun _ => 0))), ((a 19), .inl (g 1, 40, .inr (.inl (fun _ => 0)))), ((a 18), .inl (g 0, 40, .inl (fun _ => (-1))))] sz) := by
  refine met0 (cc := cX11_input) (n := 1) (by decide) (Nat.le_of_ble_eq_true rfl) ?_
  intro p e s m args below meth c hx hb hr hml hown ht hlocks hnm hP0 hD0 hK hZ hsz hz ls hl
  subst hsz
  have hA : ∀ q : Nat, s.heap.size ≤ q → va_A [((a 0), f_x a), ((a 1), f_net a), ((a 12), .inl (g 2, 40, .inl (fun _ => 0))), ((a 19), .inl (g 1, 40, .inr (.inl (fun _ => 0)))), ((a 18), .inl (g 0, 40, .inl (fun _ => (-1))))] s.heap.size q := Anw
  have hAz : ∀ q, va_A [((a 0), f_x a), ((a 1), f_net a), ((a 12), .inl (g 2, 40, .inl (fun _ => 0))), ((a 19), .inl (g 1, 40, .inr (.inl (fun _ => 0)))), ((a 18), .inl (g 0, 40, .inl (fun _ => (-1))))] s.heap.size q → z0 ≤ q := Awz hz hD0
  have hS : va_S (va_A [((a 0), f_x a), ((a 1), f_net a), ((a 12), .inl (g 2, 40, .inl (fun _ => 0))), ((a 19), .inl (g 1, 40, .inr (.inl (fun _ => 0)))), ((a 18), .inl (g 0, 40, .inl (fun _ => (-1))))] s.heap.size) s.heap s.heap [] := va_S.rf
  have hD : va_D (va_A [((a 0), f_x a), ((a 1), f_net a), ((a 12), .inl (g 2, 40, .inl (fun _ => 0))), ((a 19), .inl (g 1, 40, .inr (.inl (fun _ => 0)))), ((a 18), .inl (g 0, 40, .inl (fun _ => (-1))))] s.heap.size) [((a 0), f_x a), ((a 1), f_net a), ((a 12), .inl (g 2, 40, .inl (fun _ => 0))), ((a 19), .inl (g 1, 40, .inr (.inl (fun _ => 0)))), ((a 18), .inl (g 0, 40, .inl (fun _ => (-1))))] := hD0.self
  have hP : va_P D vwCl [((a 0), f_x a), ((a 1), f_net a), ((a 12), .inl (g 2, 40, .inl (fun _ => 0))), ((a 19), .inl (g 1, 40, .inr (.inl (fun _ => 0)))), ((a 18), .inl (g 0, 40, .inl (fun _ => (-1))))] s.heap := hP0
  have hl : lv_has ls 1 [(0, .ref (a 0))] := hl
  refine lv_aload_n hx hb dX11_input_0 rfl (lv_at hl 0 rfl) ?_
  refine lv_iconst (v := 0) hx hb dX11_input_1 (by decide) ?_
  have hPc : va_P D vwCl [((a 0), f_x a), ((a 1), f_net a), ((a 12), .inl (g 2, 40, .inl (fun _ => 0))), ((a 19), .inl (g 1, 40, .inr (.inl (fun _ => 0)))), ((a 18), .inl (g 0, 40, .inl (fun _ => (-1))))] _ := hP.sub (ws' := [((a 0), f_x a), ((a 1), f_net a), ((a 12), .inl (g 2, 40, .inl (fun _ => 0))), ((a 19), .inl (g 1, 40, .inr (.inl (fun _ => 0)))), ((a 18), .inl (g 0, 40, .inl (fun _ => (-1))))]) [0, 1, 2, 3, 4] rfl
  have hDc : va_D (fun q => z0 ≤ q) [((a 0), f_x a), ((a 1), f_net a), ((a 12), .inl (g 2, 40, .inl (fun _ => 0))), ((a 19), .inl (g 1, 40, .inr (.inl (fun _ => 0)))), ((a 18), .inl (g 0, 40, .inl (fun _ => (-1))))] := (hD.to hAz).pick (ws' := [((a 0), f_x a), ((a 1), f_net a), ((a 12), .inl (g 2, 40, .inl (fun _ => 0))), ((a 19), .inl (g 1, 40, .inr (.inl (fun _ => 0)))), ((a 18), .inl (g 0, 40, .inl (fun _ => (-1))))]) [0, 1, 2, 3, 4] (by decide) rfl
  have hFc := va_free (wc := [((a 0), f_x a), ((a 1), f_net a), ((a 12), .inl (g 2, 40, .inl (fun _ => 0))), ((a 19), .inl (g 1, 40, .inr (.inl (fun _ => 0)))), ((a 18), .inl (g 0, 40, .inl (fun _ => (-1))))]) hD hS hA [0, 1, 2, 3, 4] rfl
  refine va_calli (va_runV (As := [.int 0]) (rest := []) ⟨hx, hb, hml, hown, ht⟩ (k_X11_addSource_v1 l D g z0 _ a) (cwV 1 ht (gV w_136 w_138 w_139 w_31 w_137) rfl rfl rfl (by decide +kernel) (le2 rfl rfl)) ⟨PP.blind, va_recv hK.1 hP (ci := 17) (q0 := 0) rfl rfl, PP.mk' hK hZ hz hAz hS hPc hDc⟩ rfl rfl hl.1 rfl (lv_room (Nat.le_of_ble_eq_true rfl)) dX11_input_2 (le2 rfl rfl)) hS (fun q _ h => hFc q h) hFc (fun r u t H locs ht1 hvm hw hB hz1 hk1 hS => ?_)
  obtain ⟨rfl, hw⟩ := hw
  obtain ⟨hP1, hD1⟩ := hB
  rw [ht1] at hP1
  obtain ⟨hP, hD⟩ := va_join (wr := []) (w1 := [((a 0), f_x a), ((a 1), .inr (12, [.ref (a 12), .ref (a 13), .ref (a 14), .ref (a 15), .ref (a 16), .ref (a 17), .ref (a 18), .ref (a 19), .ref (a 20), .ref (a 21), .ref (a 22), .ref (a 23), .int 1, .int 1, .int 0, .int 0, .int 0, .int 0])), ((a 12), .inl (g 2, 40, .inl (upd (fun _ => 0) (0 : Int32).toNatClampNeg (vp_nar .char 105)))), ((a 19), .inl (g 1, 40, .inr (.inl (vp_updL (fun _ => 0) (0 : Int32).toNatClampNeg 1)))), ((a 18), .inl (g 0, 40, .inl (upd (fun _ => (-1)) (0 : Int32).toNatClampNeg 0)))]) hP hD [0, 1, 2, 3, 4] [] rfl rfl (by decide) (by decide) hk1 hFc hP1 hD1
  have hP : va_P D vwCl [((a 0), f_x a), ((a 1), .inr (12, [.ref (a 12), .ref (a 13), .ref (a 14), .ref (a 15), .ref (a 16), .ref (a 17), .ref (a 18), .ref (a 19), .ref (a 20), .ref (a 21), .ref (a 22), .ref (a 23), .int 1, .int 1, .int 0, .int 0, .int 0, .int 0])), ((a 12), .inl (g 2, 40, .inl (upd (fun _ => 0) (0 : Int32).toNatClampNeg (vp_nar .char 105)))), ((a 19), .inl (g 1, 40, .inr (.inl (vp_updL (fun _ => 0) (0 : Int32).toNatClampNeg 1)))), ((a 18), .inl (g 0, 40, .inl (upd (fun _ => (-1)) (0 : Int32).toNatClampNeg 0)))] H := hP
  have hD : va_D (va_A [((a 0), f_x a), ((a 1), f_net a), ((a 12), .inl (g 2, 40, .inl (fun _ => 0))), ((a 19), .inl (g 1, 40, .inr (.inl (fun _ => 0)))), ((a 18), .inl (g 0, 40, .inl (fun _ => (-1))))] s.heap.size) [((a 0), f_x a), ((a 1), .inr (12, [.ref (a 12), .ref (a 13), .ref (a 14), .ref (a 15), .ref (a 16), .ref (a 17), .ref (a 18), .ref (a 19), .ref (a 20), .ref (a 21), .ref (a 22), .ref (a 23), .int 1, .int 1, .int 0, .int 0, .int 0, .int 0])), ((a 12), .inl (g 2, 40, .inl (upd (fun _ => 0) (0 : Int32).toNatClampNeg (vp_nar .char 105)))), ((a 19), .inl (g 1, 40, .inr (.inl (vp_updL (fun _ => 0) (0 : Int32).toNatClampNeg 1)))), ((a 18), .inl (g 0, 40, .inl (upd (fun _ => (-1)) (0 : Int32).toNatClampNeg 0)))] := hD
  have hP9 := hP.sub (ws' := []) [] rfl
  have hD9 := hD.sub (ws' := []) [] (by decide) rfl
  refine W.widen (k := 0) (n := 0) (Nat.le_of_ble_eq_true rfl) (Nat.le_of_ble_eq_true rfl) ?_
  exact W.iret (v := 0) hx hb hr (fun t ht9 hW9 => ⟨⟨0, (), rfl, ⟨rfl, trivial⟩, ⟨(by rw [ht9]; exact hP9), hD9⟩⟩, hS.F ht9⟩) hS.2.2 dX11_input_5 hlocks
set_option maxHeartbeats 4000000 in
set_option maxRecDepth 100000 in
theorem k_X11_needNotSlow (l : Launch) (hfl : l.stackTraces = false) (D : va_G) (g : Nat → ClassId) (z0 sz : Nat) (a : Nat → Nat) (p0 : Int32) : vx_Met l yX11_needNotSlow (.code yX11_needNotSlow cX11_needNotSlow 2 none :: TG) (rmk 7 1 6 102) (va_Pc [.ref (a 0), .int p0] (PP D g z0 sz [((a 0), f_x a), ((a 2), f_book a)])) (va_Qv (fun (u : Unit) => False) (fun (_ : Unit) (_ : State) => True) (va_A [] sz)) (vx_X (fun _ : Unit => True) (fun E _ _ => (E = "java/lang/IndexOutOfBoundsException" ∧ True)) (va_A [] sz)) 1 6 (va_A [] sz) := by
  refine vxm0 (cc := cX11_needNotSlow) (n := 2) (by decide) (Nat.le_of_ble_eq_true rfl) ?_
  intro p e s m args below meth c hx hb hr hml htab hown ht hlocks hnm hP0 hD0 hK hZ hsz hz ls hl
  subst hsz
  have hA : ∀ q : Nat, s.heap.size ≤ q → va_A [] s.heap.size q := Anw
  have hAz : ∀ q, va_A [] s.heap.size q → z0 ≤ q := A0z hz
  have hS : va_S (va_A [] s.heap.size) s.heap s.heap [] := va_S.rf
  have hl : lv_has ls 2 [(0, .ref (a 0)), (1, .int p0)] := hl
  refine lv_aload_n hx hb dX11_needNotSlow_0 rfl (lv_at hl 0 rfl) ?_
  refine lv_iload_n hx hb dX11_needNotSlow_1 rfl (lv_at hl 1 rfl) ?_
  have hPc : va_P D vwCl [((a 0), f_x a), ((a 2), f_book a)] _ := (ro0 hP0 hS).sub (ws' := [((a 0), f_x a), ((a 2), f_book a)]) [0, 1] rfl
  have hDc : va_D (fun q => z0 ≤ q) [((a 0), f_x a), ((a 2), f_book a)] := hD0.pick (ws' := [((a 0), f_x a), ((a 2), f_book a)]) [0, 1] (by decide) rfl
  have hFc := AnA (ws := []) hS.1
  refine vx_callv (vx_runV (As := [.int p0]) (rest := []) ⟨hx, hb, hml, hown, ht⟩ (k_X11_needFault l hfl D g z0 _ a p0) (cwV 1 ht (gV w_37 w_39 w_40 w_31 w_38) rfl rfl rfl (by decide +kernel) (le2 rfl rfl)) ⟨PP.blind, va_recv hK.1 (ro0 hP0 hS) (ci := 17) (q0 := 0) rfl rfl, PP.mk' hK hZ hz hAz hS hPc hDc⟩ rfl rfl hl.1 rfl (lv_room (Nat.le_of_ble_eq_true rfl)) dX11_needNotSlow_2 (le2 rfl rfl)) hS (fun q _ h => hFc q h) hFc (fun q _ h => hFc q h) (fun E ce q9 u t H locs ht1 hvm hw hB hz1 hk1 hS hcell hv9 hcl => ?_) (fun u t H locs ht1 hvm hw hB hz1 hk1 hS => ?_)
  · obtain ⟨rfl, hB⟩ := hB
    exact out0 htab hlocks hS hcell hv9 hcl (fun t _ hF => ⟨(), trivial, ⟨rfl, trivial⟩, hF⟩) (fun _ h => h) rfl rfl
  · exact hw.elim
set_option maxHeartbeats 4000000 in
set_option maxRecDepth 100000 in
theorem k_X11_isImpossible (l : Launch) (hfl : l.stackTraces = false) (D : va_G) (g : Nat → ClassId) (z0 sz : Nat) (a : Nat → Nat) (p0 : Int32) : vx_Met l yX11_isImpossible (.code yX11_isImpossible cX11_isImpossible 2 (some .boolean) :: TG) (rmk 8 1 6 123) (va_Pc [.ref (a 0), .int p0] (PP D g z0 sz [((a 0), f_x a), ((a 2), f_book a)])) (va_Qi (fun (r : Int32) (u : Unit) => False) (fun (_ : Unit) (_ : State) => True) (va_A [] sz)) (vx_X (fun _ : Unit => True) (fun E _ _ => (E = "java/lang/IndexOutOfBoundsException" ∧ True)) (va_A [] sz)) 1 6 (va_A [] sz) := by
  refine vxm0 (cc := cX11_isImpossible) (n := 2) (by decide) (Nat.le_of_ble_eq_true rfl) ?_
  intro p e s m args below meth c hx hb hr hml htab hown ht hlocks hnm hP0 hD0 hK hZ hsz hz ls hl
  subst hsz
  have hA : ∀ q : Nat, s.heap.size ≤ q → va_A [] s.heap.size q := Anw
  have hAz : ∀ q, va_A [] s.heap.size q → z0 ≤ q := A0z hz
  have hS : va_S (va_A [] s.heap.size) s.heap s.heap [] := va_S.rf
  have hl : lv_has ls 2 [(0, .ref (a 0)), (1, .int p0)] := hl
  refine lv_aload_n hx hb dX11_isImpossible_0 rfl (lv_at hl 0 rfl) ?_
  refine lv_iload_n hx hb dX11_isImpossible_1 rfl (lv_at hl 1 rfl) ?_
  have hPc : va_P D vwCl [((a 0), f_x a), ((a 2), f_book a)] _ := (ro0 hP0 hS).sub (ws' := [((a 0), f_x a), ((a 2), f_book a)]) [0, 1] rfl
  have hDc : va_D (fun q => z0 ≤ q) [((a 0), f_x a), ((a 2), f_book a)] := hD0.pick (ws' := [((a 0), f_x a), ((a 2), f_book a)]) [0, 1] (by decide) rfl
  have hFc := AnA (ws := []) hS.1
  refine vx_callv (vx_runV (As := [.int p0]) (rest := []) ⟨hx, hb, hml, hown, ht⟩ (k_X11_needNotSlow l hfl D g z0 _ a p0) (cwV 1 ht (gV w_210 w_212 w_213 w_31 w_211) rfl rfl rfl (by decide +kernel) (le2 rfl rfl)) ⟨PP.blind, va_recv hK.1 (ro0 hP0 hS) (ci := 17) (q0 := 0) rfl rfl, PP.mk' hK hZ hz hAz hS hPc hDc⟩ rfl rfl hl.1 rfl (lv_room (Nat.le_of_ble_eq_true rfl)) dX11_isImpossible_2 (le2 rfl rfl)) hS (fun q _ h => hFc q h) hFc (fun q _ h => hFc q h) (fun E ce q9 u t H locs ht1 hvm hw hB hz1 hk1 hS hcell hv9 hcl => ?_) (fun u t H locs ht1 hvm hw hB hz1 hk1 hS => ?_)
  · obtain ⟨rfl, hB⟩ := hB
    exact out0 htab hlocks hS hcell hv9 hcl (fun t _ hF => ⟨(), trivial, ⟨rfl, trivial⟩, hF⟩) (fun _ h => h) rfl rfl
  · exact hw.elim
set_option maxHeartbeats 4000000 in
set_option maxRecDepth 100000 in
theorem k_X5_isMarchRight (l : Launch) (D : va_G) (g : Nat → ClassId) (z0 sz : Nat) (a : Nat → Nat) : Met l yX5_isMarchRight (.code yX5_isMarchRight cX5_isMarchRight 1 (some .boolean) :: TG) (rmk 0 0 0 0) (va_Pc [.ref (a 9)] (PP D g z0 sz [((a 9), f_memory a)])) (va_Qi (fun (r : Int32) (u : Unit) => (r = 0) ∧ True) (fun (u : Unit) (t : State) => va_P D vwCl [((a 9), .inr (11, [.ref (a 59), .ref (a 60), .int 0, .int 45, .int 0, .int 0, .int 0, .int 0, .int 0]))] t.heap ∧ va_D (va_A [((a 9), f_memory a)] sz) [((a 9), .inr (11, [.ref (a 59), .ref (a 60), .int 0, .int 45, .int 0, .int 0, .int 0, .int 0, .int 0]))]) (va_A [((a 9), f_memory a)] sz)) 0 0 (va_A [((a 9), f_memory a)] sz) := by
  refine met0 (cc := cX5_isMarchRight) (n := 1) (by decide) (Nat.le_of_ble_eq_true rfl) ?_
  intro p e s m args below meth c hx hb hr hml hown ht hlocks hnm hP0 hD0 hK hZ hsz hz ls hl
  subst hsz
  have hA : ∀ q : Nat, s.heap.size ≤ q → va_A [((a 9), f_memory a)] s.heap.size q := Anw
  have hAz : ∀ q, va_A [((a 9), f_memory a)] s.heap.size q → z0 ≤ q := Awz hz hD0
  have hS : va_S (va_A [((a 9), f_memory a)] s.heap.size) s.heap s.heap [] := va_S.rf
  have hD : va_D (va_A [((a 9), f_memory a)] s.heap.size) [((a 9), f_memory a)] := hD0.self
  have hP : va_P D vwCl [((a 9), f_memory a)] s.heap := hP0
  have hl : lv_has ls 1 [(0, .ref (a 9))] := hl
  refine lv_aload_n hx hb dX5_isMarchRight_0 rfl (lv_at hl 0 rfl) ?_
  refine lv_bipush (v := 45) hx hb dX5_isMarchRight_1 (by decide) ?_
  refine va_put (D := D) (ci := 11) (v := .int 45) (ty := .char) (C := RX5) (T := TX5) (N := 9) hx hb ht in_X5 tyX5 tyX5_ok nmX5 hown hK.1 hP hD hS 0 rfl rfl 3 (by decide) (ht _ w_214) (fun _ h9 => h9) rfl (by decide +kernel) rfl rfl (Nat.le_of_ble_eq_true rfl) dX5_isMarchRight_3 (fun H locs hP hD hS => ?_)
  have hP : va_P D vwCl [((a 9), .inr (11, [.ref (a 59), .ref (a 60), .int 0, .int 45, .int 0, .int 0, .int 0, .int 0, .int 0]))] H := hP
  have hD : va_D (va_A [((a 9), f_memory a)] s.heap.size) [((a 9), .inr (11, [.ref (a 59), .ref (a 60), .int 0, .int 45, .int 0, .int 0, .int 0, .int 0, .int 0]))] := hD
  refine lv_aload_n hx hb dX5_isMarchRight_6 rfl (lv_at hl 0 rfl) ?_
  refine va_get (D := D) (ci := 11) (v := .int 0) (C := RX5) (T := TX5) (N := 9) hx hb ht in_X5 hown hK.1 hP 0 rfl rfl 2 (by decide) (ht _ w_215) (fun _ h9 => h9) rfl dX5_isMarchRight_7 ?_
  refine lv_if_le (tgt := 47) hx hb dX5_isMarchRight_10 (by decide) (fun c_1 => ?_) (fun c_1 => ?_)
  · refine lv_iconst (v := 0) hx hb dX5_isMarchRight_47 (by decide) ?_
    have hP9 := hP.sub (ws' := [((a 9), .inr (11, [.ref (a 59), .ref (a 60), .int 0, .int 45, .int 0, .int 0, .int 0, .int 0, .int 0]))]) [0] rfl
    have hD9 := hD.sub (ws' := [((a 9), .inr (11, [.ref (a 59), .ref (a 60), .int 0, .int 45, .int 0, .int 0, .int 0, .int 0, .int 0]))]) [0] (by decide) rfl
    refine W.widen (k := 0) (n := 0) (Nat.le_of_ble_eq_true rfl) (Nat.le_of_ble_eq_true rfl) ?_
    exact W.zret (v := 0) hx hb hr rfl (fun t ht9 hW9 => ⟨⟨0, (), rfl, ⟨rfl, trivial⟩, ⟨(by rw [ht9]; exact hP9), hD9⟩⟩, hS.F ht9⟩) hS.2.2 dX5_isMarchRight_48 hlocks
  · exact absurd c_1 (by decide)
set_option maxHeartbeats 4000000 in
set_option maxRecDepth 100000 in
theorem k_X11_isRight (l : Launch) (D : va_G) (g : Nat → ClassId) (z0 sz : Nat) (a : Nat → Nat) : Met l yX11_isRight (.code yX11_isRight cX11_isRight 1 (some .boolean) :: TG) (rmk 1 0 0 20) (va_Pc [.ref (a 0)] (PP D g z0 sz [((a 0), f_x a), ((a 9), f_memory a)])) (va_Qi (fun (r : Int32) (u : Unit) => (r = 0) ∧ True) (fun (u : Unit) (t : State) => va_P D vwCl [] t.heap ∧ va_D (va_A [((a 0), f_x a), ((a 9), f_memory a)] sz) []) (va_A [((a 0), f_x a), ((a 9), f_memory a)] sz)) 0 0 (va_A [((a 0), f_x a), ((a 9), f_memory a)] sz) := by
  refine met0 (cc := cX11_isRight) (n := 1) (by decide) (Nat.le_of_ble_eq_true rfl) ?_
  intro p e s m args below meth c hx hb hr hml hown ht hlocks hnm hP0 hD0 hK hZ hsz hz ls hl
  subst hsz
  have hA : ∀ q : Nat, s.heap.size ≤ q → va_A [((a 0), f_x a), ((a 9), f_memory a)] s.heap.size q := Anw
  have hAz : ∀ q, va_A [((a 0), f_x a), ((a 9), f_memory a)] s.heap.size q → z0 ≤ q := Awz hz hD0
  have hS : va_S (va_A [((a 0), f_x a), ((a 9), f_memory a)] s.heap.size) s.heap s.heap [] := va_S.rf
  have hD : va_D (va_A [((a 0), f_x a), ((a 9), f_memory a)] s.heap.size) [((a 0), f_x a), ((a 9), f_memory a)] := hD0.self
  have hP : va_P D vwCl [((a 0), f_x a), ((a 9), f_memory a)] s.heap := hP0
  have hl : lv_has ls 1 [(0, .ref (a 0))] := hl
  refine lv_aload_n hx hb dX11_isRight_0 rfl (lv_at hl 0 rfl) ?_
  refine va_get (D := D) (ci := 17) (v := .ref (a 9)) (C := RX11) (T := TX11) (N := 11) hx hb ht in_X11 hown hK.1 hP 0 rfl rfl 8 (by decide) (ht _ w_166) (fun _ h9 => h9) rfl dX11_isRight_1 ?_
  have hPc : va_P D vwCl [((a 9), f_memory a)] _ := hP.sub (ws' := [((a 9), f_memory a)]) [1] rfl
  have hDc : va_D (fun q => z0 ≤ q) [((a 9), f_memory a)] := (hD.to hAz).pick (ws' := [((a 9), f_memory a)]) [1] (by decide) rfl
  have hFc := va_free (wc := [((a 9), f_memory a)]) hD hS hA [1] rfl
  refine va_calli (va_runV (As := []) (rest := []) ⟨hx, hb, hml, hown, ht⟩ (k_X5_isMarchRight l D g z0 _ a) (cwV 0 ht (gV w_216 w_218 w_219 w_220 w_217) rfl rfl rfl (by decide +kernel) (le2 rfl rfl)) ⟨PP.blind, va_recv hK.1 hP (ci := 11) (q0 := 1) rfl rfl, PP.mk' hK hZ hz hAz hS hPc hDc⟩ rfl rfl hl.1 rfl (lv_room (Nat.le_of_ble_eq_true rfl)) dX11_isRight_4 (le2 rfl rfl)) hS (fun q _ h => hFc q h) hFc (fun r u t H locs ht1 hvm hw hB hz1 hk1 hS => ?_)
  obtain ⟨rfl, hw⟩ := hw
  obtain ⟨hP1, hD1⟩ := hB
  rw [ht1] at hP1
  obtain ⟨hP, hD⟩ := va_join (wr := [((a 0), f_x a)]) (w1 := [((a 9), f_memory a)]) hP hD [1] [0] rfl rfl (by decide) (by decide) hk1 hFc hP1 hD1
  have hP : va_P D vwCl [((a 0), f_x a), ((a 9), f_memory a)] H := hP
  have hD : va_D (va_A [((a 0), f_x a), ((a 9), f_memory a)] s.heap.size) [((a 0), f_x a), ((a 9), f_memory a)] := hD
  have hP9 := hP.sub (ws' := []) [] rfl
  have hD9 := hD.sub (ws' := []) [] (by decide) rfl
  refine W.widen (k := 0) (n := 0) (Nat.le_of_ble_eq_true rfl) (Nat.le_of_ble_eq_true rfl) ?_
  exact W.zret (v := 0) hx hb hr rfl (fun t ht9 hW9 => ⟨⟨0, (), rfl, ⟨rfl, trivial⟩, ⟨(by rw [ht9]; exact hP9), hD9⟩⟩, hS.F ht9⟩) hS.2.2 dX11_isRight_7 hlocks
set_option maxHeartbeats 4000000 in
set_option maxRecDepth 100000 in
theorem k_X11_doEnginesAgree (l : Launch) (D : va_G) (g : Nat → ClassId) (z0 sz : Nat) (a : Nat → Nat) : Met l yX11_doEnginesAgree (.code yX11_doEnginesAgree cX11_doEnginesAgree 2 (some .boolean) :: TG) (rmk 0 0 0 0) (va_Pc [.ref (a 0)] (PP D g z0 sz [((a 0), f_x a), ((a 3), f_rows a)])) (va_Qi (fun (r : Int32) (u : Unit) => (r = 1) ∧ True) (fun (_ : Unit) (_ : State) => True) (va_A [] sz)) 0 0 (va_A [] sz) := by
  refine met0 (cc := cX11_doEnginesAgree) (n := 2) (by decide) (Nat.le_of_ble_eq_true rfl) ?_
  intro p e s m args below meth c hx hb hr hml hown ht hlocks hnm hP0 hD0 hK hZ hsz hz ls hl
  subst hsz
  have hA : ∀ q : Nat, s.heap.size ≤ q → va_A [] s.heap.size q := Anw
  have hAz : ∀ q, va_A [] s.heap.size q → z0 ≤ q := A0z hz
  have hS : va_S (va_A [] s.heap.size) s.heap s.heap [] := va_S.rf
  have hl : lv_has ls 2 [(0, .ref (a 0))] := hl
  refine lv_iconst (v := 0) hx hb dX11_doEnginesAgree_0 (by decide) ?_
  refine lv_istore_n (lv' := [(1, .int 0), (0, .ref (a 0))]) hx hb dX11_doEnginesAgree_1 rfl hl (by decide) rfl (fun ls hl => ?_)
  refine lv_iload_n hx hb dX11_doEnginesAgree_2 rfl (lv_at hl 0 rfl) ?_
  refine lv_aload_n hx hb dX11_doEnginesAgree_3 rfl (lv_at hl 1 rfl) ?_
  refine va_get (D := D) (ci := 17) (v := .ref (a 3)) (C := RX11) (T := TX11) (N := 11) hx hb ht in_X11 hown hK.1 (ro0 hP0 hS) 0 rfl rfl 2 (by decide) (ht _ w_1) (fun _ h9 => h9) rfl dX11_doEnginesAgree_4 ?_
  refine va_get (D := D) (ci := 13) (v := .int 0) (C := RX7) (T := TX7) (N := 6) hx hb ht in_X7 hown hK.1 (ro0 hP0 hS) 1 rfl rfl 5 (by decide) (ht _ w_26) (fun _ h9 => h9) rfl dX11_doEnginesAgree_7 ?_
  refine lv_icmp_ge (tgt := 37) hx hb dX11_doEnginesAgree_10 (by decide) (fun c_1 => ?_) (fun c_1 => ?_)
  · refine lv_iconst (v := 1) hx hb dX11_doEnginesAgree_37 (by decide) ?_
    refine W.widen (k := 0) (n := 0) (Nat.le_of_ble_eq_true rfl) (Nat.le_of_ble_eq_true rfl) ?_
    exact W.zret (v := 1) hx hb hr rfl (fun t ht9 hW9 => ⟨⟨1, (), rfl, ⟨rfl, trivial⟩, trivial⟩, hS.F ht9⟩) hS.2.2 dX11_doEnginesAgree_38 hlocks
  · exact absurd c_1 (by decide)
set_option maxHeartbeats 4000000 in
set_option maxRecDepth 100000 in
theorem k_X11_areLikesFoundAlike (l : Launch) (D : va_G) (g : Nat → ClassId) (z0 sz : Nat) (a : Nat → Nat) : Met l yX11_areLikesFoundAlike (.code yX11_areLikesFoundAlike cX11_areLikesFoundAlike 2 (some .boolean) :: TG) (rmk 0 0 0 0) (va_Pc [.ref (a 0)] (PP D g z0 sz [((a 0), f_x a), ((a 2), f_book a)])) (va_Qi (fun (r : Int32) (u : Unit) => (r = 1) ∧ True) (fun (_ : Unit) (_ : State) => True) (va_A [] sz)) 0 0 (va_A [] sz) := by
  refine met0 (cc := cX11_areLikesFoundAlike) (n := 2) (by decide) (Nat.le_of_ble_eq_true rfl) ?_
  intro p e s m args below meth c hx hb hr hml hown ht hlocks hnm hP0 hD0 hK hZ hsz hz ls hl
  subst hsz
  have hA : ∀ q : Nat, s.heap.size ≤ q → va_A [] s.heap.size q := Anw
  have hAz : ∀ q, va_A [] s.heap.size q → z0 ≤ q := A0z hz
  have hS : va_S (va_A [] s.heap.size) s.heap s.heap [] := va_S.rf
  have hl : lv_has ls 2 [(0, .ref (a 0))] := hl
  refine lv_iconst (v := 0) hx hb dX11_areLikesFoundAlike_0 (by decide) ?_
  refine lv_istore_n (lv' := [(1, .int 0), (0, .ref (a 0))]) hx hb dX11_areLikesFoundAlike_1 rfl hl (by decide) rfl (fun ls hl => ?_)
  refine lv_iload_n hx hb dX11_areLikesFoundAlike_2 rfl (lv_at hl 0 rfl) ?_
  refine lv_aload_n hx hb dX11_areLikesFoundAlike_3 rfl (lv_at hl 1 rfl) ?_
  refine va_get (D := D) (ci := 17) (v := .ref (a 2)) (C := RX11) (T := TX11) (N := 11) hx hb ht in_X11 hown hK.1 (ro0 hP0 hS) 0 rfl rfl 1 (by decide) (ht _ w_32) (fun _ h9 => h9) rfl dX11_areLikesFoundAlike_4 ?_
  refine va_get (D := D) (ci := 9) (v := .int 0) (C := RX3) (T := TX3) (N := 14) hx hb ht in_X3 hown hK.1 (ro0 hP0 hS) 1 rfl rfl 11 (by decide) (ht _ w_33) (fun _ h9 => h9) rfl dX11_areLikesFoundAlike_7 ?_
  refine lv_icmp_ge (tgt := 51) hx hb dX11_areLikesFoundAlike_10 (by decide) (fun c_1 => ?_) (fun c_1 => ?_)
  · refine lv_iconst (v := 1) hx hb dX11_areLikesFoundAlike_51 (by decide) ?_
    refine W.widen (k := 0) (n := 0) (Nat.le_of_ble_eq_true rfl) (Nat.le_of_ble_eq_true rfl) ?_
    exact W.zret (v := 1) hx hb hr rfl (fun t ht9 hW9 => ⟨⟨1, (), rfl, ⟨rfl, trivial⟩, trivial⟩, hS.F ht9⟩) hS.2.2 dX11_areLikesFoundAlike_52 hlocks
  · exact absurd c_1 (by decide)
set_option maxHeartbeats 4000000 in
set_option maxRecDepth 100000 in
theorem k_X11_isNoImpossibleFound (l : Launch) (D : va_G) (g : Nat → ClassId) (z0 sz : Nat) (a : Nat → Nat) : Met l yX11_isNoImpossibleFound (.code yX11_isNoImpossibleFound cX11_isNoImpossibleFound 2 (some .boolean) :: TG) (rmk 2 0 0 46) (va_Pc [.ref (a 0)] (PP D g z0 sz [((a 0), f_x a), ((a 4), f_words a), ((a 47), .inl (g 0, 256, .inl (fun _ => 0))), ((a 1), f_net a), ((a 2), f_book a)])) (va_Qi (fun (r : Int32) (u : Unit) => (r = 1) ∧ True) (fun (u : Unit) (t : State) => va_P D vwCl [((a 0), f_x a), ((a 2), f_book a), ((a 47), .inl (g 0, 256, .inl (fun _ => 0))), ((a 4), .inr (16, [.ref (a 1), .ref (a 2), .ref (a 38), .ref (a 39), .ref (a 40), .ref (a 41), .ref (a 42), .ref (a 43), .ref (a 44), .ref (a 45), .ref (a 46), .ref (a 47), .long 1, .long 0, .long 0, .int 0, .int (-1)])), ((a 1), f_net a)] t.heap ∧ va_D (va_A [((a 0), f_x a), ((a 4), f_words a), ((a 47), .inl (g 0, 256, .inl (fun _ => 0))), ((a 1), f_net a), ((a 2), f_book a)] sz) [((a 0), f_x a), ((a 2), f_book a), ((a 47), .inl (g 0, 256, .inl (fun _ => 0))), ((a 4), .inr (16, [.ref (a 1), .ref (a 2), .ref (a 38), .ref (a 39), .ref (a 40), .ref (a 41), .ref (a 42), .ref (a 43), .ref (a 44), .ref (a 45), .ref (a 46), .ref (a 47), .long 1, .long 0, .long 0, .int 0, .int (-1)])), ((a 1), f_net a)]) (va_A [((a 0), f_x a), ((a 4), f_words a), ((a 47), .inl (g 0, 256, .inl (fun _ => 0))), ((a 1), f_net a), ((a 2), f_book a)] sz)) 0 0 (va_A [((a 0), f_x a), ((a 4), f_words a), ((a 47), .inl (g 0, 256, .inl (fun _ => 0))), ((a 1), f_net a), ((a 2), f_book a)] sz) := by
  refine met0 (cc := cX11_isNoImpossibleFound) (n := 2) (by decide) (Nat.le_of_ble_eq_true rfl) ?_
  intro p e s m args below meth c hx hb hr hml hown ht hlocks hnm hP0 hD0 hK hZ hsz hz ls hl
  subst hsz
  have hA : ∀ q : Nat, s.heap.size ≤ q → va_A [((a 0), f_x a), ((a 4), f_words a), ((a 47), .inl (g 0, 256, .inl (fun _ => 0))), ((a 1), f_net a), ((a 2), f_book a)] s.heap.size q := Anw
  have hAz : ∀ q, va_A [((a 0), f_x a), ((a 4), f_words a), ((a 47), .inl (g 0, 256, .inl (fun _ => 0))), ((a 1), f_net a), ((a 2), f_book a)] s.heap.size q → z0 ≤ q := Awz hz hD0
  have hS : va_S (va_A [((a 0), f_x a), ((a 4), f_words a), ((a 47), .inl (g 0, 256, .inl (fun _ => 0))), ((a 1), f_net a), ((a 2), f_book a)] s.heap.size) s.heap s.heap [] := va_S.rf
  have hD : va_D (va_A [((a 0), f_x a), ((a 4), f_words a), ((a 47), .inl (g 0, 256, .inl (fun _ => 0))), ((a 1), f_net a), ((a 2), f_book a)] s.heap.size) [((a 0), f_x a), ((a 4), f_words a), ((a 47), .inl (g 0, 256, .inl (fun _ => 0))), ((a 1), f_net a), ((a 2), f_book a)] := hD0.self
  have hP : va_P D vwCl [((a 0), f_x a), ((a 4), f_words a), ((a 47), .inl (g 0, 256, .inl (fun _ => 0))), ((a 1), f_net a), ((a 2), f_book a)] s.heap := hP0
  have hl : lv_has ls 2 [(0, .ref (a 0))] := hl
  refine lv_aload_n hx hb dX11_isNoImpossibleFound_0 rfl (lv_at hl 0 rfl) ?_
  refine va_get (D := D) (ci := 17) (v := .ref (a 4)) (C := RX11) (T := TX11) (N := 11) hx hb ht in_X11 hown hK.1 hP 0 rfl rfl 3 (by decide) (ht _ w_0) (fun _ h9 => h9) rfl dX11_isNoImpossibleFound_1 ?_
  have hPc : va_P D vwCl [((a 4), f_words a), ((a 47), .inl (g 0, 256, .inl (fun _ => 0))), ((a 1), f_net a), ((a 2), f_book a)] _ := hP.sub (ws' := [((a 4), f_words a), ((a 47), .inl (g 0, 256, .inl (fun _ => 0))), ((a 1), f_net a), ((a 2), f_book a)]) [1, 2, 3, 4] rfl
  have hDc : va_D (fun q => z0 ≤ q) [((a 4), f_words a), ((a 47), .inl (g 0, 256, .inl (fun _ => 0))), ((a 1), f_net a), ((a 2), f_book a)] := (hD.to hAz).pick (ws' := [((a 4), f_words a), ((a 47), .inl (g 0, 256, .inl (fun _ => 0))), ((a 1), f_net a), ((a 2), f_book a)]) [1, 2, 3, 4] (by decide) rfl
  have hFc := va_free (wc := [((a 4), f_words a), ((a 47), .inl (g 0, 256, .inl (fun _ => 0))), ((a 1), f_net a), ((a 2), f_book a)]) hD hS hA [1, 2, 3, 4] rfl
  refine va_callv (va_runV (As := []) (rest := []) ⟨hx, hb, hml, hown, ht⟩ (k_X10_countAllWays l D g z0 _ a) (cwV 0 ht (gV w_206 w_208 w_209 w_14 w_207) rfl rfl rfl (by decide +kernel) (le2 rfl rfl)) ⟨PP.blind, va_recv hK.1 hP (ci := 16) (q0 := 1) rfl rfl, PP.mk' hK hZ hz hAz hS hPc hDc⟩ rfl rfl hl.1 rfl (lv_room (Nat.le_of_ble_eq_true rfl)) dX11_isNoImpossibleFound_4 (le2 rfl rfl)) hS (fun q _ h => hFc q h) hFc (fun u t H locs ht1 hvm hw hB hz1 hk1 hS => ?_)
  obtain ⟨hP1, hD1⟩ := hB
  rw [ht1] at hP1
  obtain ⟨hP, hD⟩ := va_join (wr := [((a 0), f_x a)]) (w1 := [((a 2), f_book a), ((a 47), .inl (g 0, 256, .inl (fun _ => 0))), ((a 4), .inr (16, [.ref (a 1), .ref (a 2), .ref (a 38), .ref (a 39), .ref (a 40), .ref (a 41), .ref (a 42), .ref (a 43), .ref (a 44), .ref (a 45), .ref (a 46), .ref (a 47), .long 1, .long 0, .long 0, .int 0, .int (-1)])), ((a 1), f_net a)]) hP hD [1, 2, 3, 4] [0] rfl rfl (by decide) (by decide) hk1 hFc hP1 hD1
  have hP : va_P D vwCl [((a 0), f_x a), ((a 2), f_book a), ((a 47), .inl (g 0, 256, .inl (fun _ => 0))), ((a 4), .inr (16, [.ref (a 1), .ref (a 2), .ref (a 38), .ref (a 39), .ref (a 40), .ref (a 41), .ref (a 42), .ref (a 43), .ref (a 44), .ref (a 45), .ref (a 46), .ref (a 47), .long 1, .long 0, .long 0, .int 0, .int (-1)])), ((a 1), f_net a)] H := hP
  have hD : va_D (va_A [((a 0), f_x a), ((a 4), f_words a), ((a 47), .inl (g 0, 256, .inl (fun _ => 0))), ((a 1), f_net a), ((a 2), f_book a)] s.heap.size) [((a 0), f_x a), ((a 2), f_book a), ((a 47), .inl (g 0, 256, .inl (fun _ => 0))), ((a 4), .inr (16, [.ref (a 1), .ref (a 2), .ref (a 38), .ref (a 39), .ref (a 40), .ref (a 41), .ref (a 42), .ref (a 43), .ref (a 44), .ref (a 45), .ref (a 46), .ref (a 47), .long 1, .long 0, .long 0, .int 0, .int (-1)])), ((a 1), f_net a)] := hD
  refine lv_iconst (v := 0) hx hb dX11_isNoImpossibleFound_7 (by decide) ?_
  refine lv_istore_n (lv' := [(1, .int 0), (0, .ref (a 0))]) hx hb dX11_isNoImpossibleFound_8 rfl hl (by decide) rfl (fun ls hl => ?_)
  refine lv_iload_n hx hb dX11_isNoImpossibleFound_9 rfl (lv_at hl 0 rfl) ?_
  refine lv_aload_n hx hb dX11_isNoImpossibleFound_10 rfl (lv_at hl 1 rfl) ?_
  refine va_get (D := D) (ci := 17) (v := .ref (a 2)) (C := RX11) (T := TX11) (N := 11) hx hb ht in_X11 hown hK.1 hP 0 rfl rfl 1 (by decide) (ht _ w_32) (fun _ h9 => h9) rfl dX11_isNoImpossibleFound_11 ?_
  refine va_get (D := D) (ci := 9) (v := .int 0) (C := RX3) (T := TX3) (N := 14) hx hb ht in_X3 hown hK.1 hP 1 rfl rfl 11 (by decide) (ht _ w_33) (fun _ h9 => h9) rfl dX11_isNoImpossibleFound_14 ?_
  refine lv_icmp_ge (tgt := 65) hx hb dX11_isNoImpossibleFound_17 (by decide) (fun c_1 => ?_) (fun c_1 => ?_)
  · refine lv_iconst (v := 1) hx hb dX11_isNoImpossibleFound_65 (by decide) ?_
    have hP9 := hP.sub (ws' := [((a 0), f_x a), ((a 2), f_book a), ((a 47), .inl (g 0, 256, .inl (fun _ => 0))), ((a 4), .inr (16, [.ref (a 1), .ref (a 2), .ref (a 38), .ref (a 39), .ref (a 40), .ref (a 41), .ref (a 42), .ref (a 43), .ref (a 44), .ref (a 45), .ref (a 46), .ref (a 47), .long 1, .long 0, .long 0, .int 0, .int (-1)])), ((a 1), f_net a)]) [0, 1, 2, 3, 4] rfl
    have hD9 := hD.sub (ws' := [((a 0), f_x a), ((a 2), f_book a), ((a 47), .inl (g 0, 256, .inl (fun _ => 0))), ((a 4), .inr (16, [.ref (a 1), .ref (a 2), .ref (a 38), .ref (a 39), .ref (a 40), .ref (a 41), .ref (a 42), .ref (a 43), .ref (a 44), .ref (a 45), .ref (a 46), .ref (a 47), .long 1, .long 0, .long 0, .int 0, .int (-1)])), ((a 1), f_net a)]) [0, 1, 2, 3, 4] (by decide) rfl
    refine W.widen (k := 0) (n := 0) (Nat.le_of_ble_eq_true rfl) (Nat.le_of_ble_eq_true rfl) ?_
    exact W.zret (v := 1) hx hb hr rfl (fun t ht9 hW9 => ⟨⟨1, (), rfl, ⟨rfl, trivial⟩, ⟨(by rw [ht9]; exact hP9), hD9⟩⟩, hS.F ht9⟩) hS.2.2 dX11_isNoImpossibleFound_66 hlocks
  · exact absurd c_1 (by decide)
set_option maxHeartbeats 4000000 in
set_option maxRecDepth 100000 in
theorem k_X11_isChipTold (l : Launch) (D : va_G) (g : Nat → ClassId) (z0 sz : Nat) (a : Nat → Nat) : Met l yX11_isChipTold (.code yX11_isChipTold cX11_isChipTold 1 (some .boolean) :: TG) (rmk 0 0 0 0) (va_Pc [.ref (a 0)] (PP D g z0 sz [((a 0), f_x a), ((a 8), f_chip a)])) (va_Qi (fun (r : Int32) (u : Unit) => (r = 1) ∧ True) (fun (_ : Unit) (_ : State) => True) (va_A [] sz)) 0 0 (va_A [] sz) := by
  refine met0 (cc := cX11_isChipTold) (n := 1) (by decide) (Nat.le_of_ble_eq_true rfl) ?_
  intro p e s m args below meth c hx hb hr hml hown ht hlocks hnm hP0 hD0 hK hZ hsz hz ls hl
  subst hsz
  have hA : ∀ q : Nat, s.heap.size ≤ q → va_A [] s.heap.size q := Anw
  have hAz : ∀ q, va_A [] s.heap.size q → z0 ≤ q := A0z hz
  have hS : va_S (va_A [] s.heap.size) s.heap s.heap [] := va_S.rf
  have hl : lv_has ls 1 [(0, .ref (a 0))] := hl
  refine lv_aload_n hx hb dX11_isChipTold_0 rfl (lv_at hl 0 rfl) ?_
  refine va_get (D := D) (ci := 17) (v := .ref (a 8)) (C := RX11) (T := TX11) (N := 11) hx hb ht in_X11 hown hK.1 (ro0 hP0 hS) 0 rfl rfl 7 (by decide) (ht _ w_84) (fun _ h9 => h9) rfl dX11_isChipTold_1 ?_
  refine va_get (D := D) (ci := 7) (v := .int 0) (C := RX1) (T := TX1) (N := 13) hx hb ht in_X1 hown hK.1 (ro0 hP0 hS) 1 rfl rfl 10 (by decide) (ht _ w_233) (fun _ h9 => h9) rfl dX11_isChipTold_4 ?_
  refine lv_iconst (v := 1) hx hb dX11_isChipTold_7 (by decide) ?_
  refine lv_icmp_eq (tgt := 13) hx hb dX11_isChipTold_8 (by decide) (fun c_1 => ?_) (fun c_1 => ?_)
  · exact absurd c_1 (by decide)
  · refine lv_iconst (v := 1) hx hb dX11_isChipTold_11 (by decide) ?_
    refine W.widen (k := 0) (n := 0) (Nat.le_of_ble_eq_true rfl) (Nat.le_of_ble_eq_true rfl) ?_
    exact W.zret (v := 1) hx hb hr rfl (fun t ht9 hW9 => ⟨⟨1, (), rfl, ⟨rfl, trivial⟩, trivial⟩, hS.F ht9⟩) hS.2.2 dX11_isChipTold_12 hlocks
set_option maxHeartbeats 4000000 in
set_option maxRecDepth 100000 in
theorem k_X11_isSound (l : Launch) (D : va_G) (g : Nat → ClassId) (z0 sz : Nat) (a : Nat → Nat) : Met l yX11_isSound (.code yX11_isSound cX11_isSound 1 (some .boolean) :: TG) (rmk 4 0 0 90) (va_Pc [.ref (a 0)] (PP D g z0 sz [((a 0), f_x a), ((a 3), f_rows a), ((a 4), f_words a), ((a 38), .inl (g 1, 12, .inr (.inl (fun _ => 0)))), ((a 39), .inl (g 1, 12, .inr (.inl (fun _ => 0)))), ((a 1), f_net a), ((a 2), f_book a), ((a 47), .inl (g 0, 256, .inl (fun _ => 0))), ((a 8), f_chip a)])) (va_Qi (fun (r : Int32) (u : Unit) => (r = 1) ∧ True) (fun (u : Unit) (t : State) => va_P D vwCl [] t.heap ∧ va_D (va_A [((a 0), f_x a), ((a 3), f_rows a), ((a 4), f_words a), ((a 38), .inl (g 1, 12, .inr (.inl (fun _ => 0)))), ((a 39), .inl (g 1, 12, .inr (.inl (fun _ => 0)))), ((a 1), f_net a), ((a 2), f_book a), ((a 47), .inl (g 0, 256, .inl (fun _ => 0))), ((a 8), f_chip a)] sz) []) (va_A [((a 0), f_x a), ((a 3), f_rows a), ((a 4), f_words a), ((a 38), .inl (g 1, 12, .inr (.inl (fun _ => 0)))), ((a 39), .inl (g 1, 12, .inr (.inl (fun _ => 0)))), ((a 1), f_net a), ((a 2), f_book a), ((a 47), .inl (g 0, 256, .inl (fun _ => 0))), ((a 8), f_chip a)] sz)) 0 0 (va_A [((a 0), f_x a), ((a 3), f_rows a), ((a 4), f_words a), ((a 38), .inl (g 1, 12, .inr (.inl (fun _ => 0)))), ((a 39), .inl (g 1, 12, .inr (.inl (fun _ => 0)))), ((a 1), f_net a), ((a 2), f_book a), ((a 47), .inl (g 0, 256, .inl (fun _ => 0))), ((a 8), f_chip a)] sz) := by
  refine met0 (cc := cX11_isSound) (n := 1) (by decide) (Nat.le_of_ble_eq_true rfl) ?_
  intro p e s m args below meth c hx hb hr hml hown ht hlocks hnm hP0 hD0 hK hZ hsz hz ls hl
  subst hsz
  have hA : ∀ q : Nat, s.heap.size ≤ q → va_A [((a 0), f_x a), ((a 3), f_rows a), ((a 4), f_words a), ((a 38), .inl (g 1, 12, .inr (.inl (fun _ => 0)))), ((a 39), .inl (g 1, 12, .inr (.inl (fun _ => 0)))), ((a 1), f_net a), ((a 2), f_book a), ((a 47), .inl (g 0, 256, .inl (fun _ => 0))), ((a 8), f_chip a)] s.heap.size q := Anw
  have hAz : ∀ q, va_A [((a 0), f_x a), ((a 3), f_rows a), ((a 4), f_words a), ((a 38), .inl (g 1, 12, .inr (.inl (fun _ => 0)))), ((a 39), .inl (g 1, 12, .inr (.inl (fun _ => 0)))), ((a 1), f_net a), ((a 2), f_book a), ((a 47), .inl (g 0, 256, .inl (fun _ => 0))), ((a 8), f_chip a)] s.heap.size q → z0 ≤ q := Awz hz hD0
  have hS : va_S (va_A [((a 0), f_x a), ((a 3), f_rows a), ((a 4), f_words a), ((a 38), .inl (g 1, 12, .inr (.inl (fun _ => 0)))), ((a 39), .inl (g 1, 12, .inr (.inl (fun _ => 0)))), ((a 1), f_net a), ((a 2), f_book a), ((a 47), .inl (g 0, 256, .inl (fun _ => 0))), ((a 8), f_chip a)] s.heap.size) s.heap s.heap [] := va_S.rf
  have hD : va_D (va_A [((a 0), f_x a), ((a 3), f_rows a), ((a 4), f_words a), ((a 38), .inl (g 1, 12, .inr (.inl (fun _ => 0)))), ((a 39), .inl (g 1, 12, .inr (.inl (fun _ => 0)))), ((a 1), f_net a), ((a 2), f_book a), ((a 47), .inl (g 0, 256, .inl (fun _ => 0))), ((a 8), f_chip a)] s.heap.size) [((a 0), f_x a), ((a 3), f_rows a), ((a 4), f_words a), ((a 38), .inl (g 1, 12, .inr (.inl (fun _ => 0)))), ((a 39), .inl (g 1, 12, .inr (.inl (fun _ => 0)))), ((a 1), f_net a), ((a 2), f_book a), ((a 47), .inl (g 0, 256, .inl (fun _ => 0))), ((a 8), f_chip a)] := hD0.self
  have hP : va_P D vwCl [((a 0), f_x a), ((a 3), f_rows a), ((a 4), f_words a), ((a 38), .inl (g 1, 12, .inr (.inl (fun _ => 0)))), ((a 39), .inl (g 1, 12, .inr (.inl (fun _ => 0)))), ((a 1), f_net a), ((a 2), f_book a), ((a 47), .inl (g 0, 256, .inl (fun _ => 0))), ((a 8), f_chip a)] s.heap := hP0
  have hl : lv_has ls 1 [(0, .ref (a 0))] := hl
  refine lv_aload_n hx hb dX11_isSound_0 rfl (lv_at hl 0 rfl) ?_
  refine va_get (D := D) (ci := 17) (v := .ref (a 4)) (C := RX11) (T := TX11) (N := 11) hx hb ht in_X11 hown hK.1 hP 0 rfl rfl 3 (by decide) (ht _ w_0) (fun _ h9 => h9) rfl dX11_isSound_1 ?_
  refine lv_aload_n hx hb dX11_isSound_4 rfl (lv_at hl 0 rfl) ?_
  refine va_get (D := D) (ci := 17) (v := .ref (a 3)) (C := RX11) (T := TX11) (N := 11) hx hb ht in_X11 hown hK.1 hP 0 rfl rfl 2 (by decide) (ht _ w_1) (fun _ h9 => h9) rfl dX11_isSound_5 ?_
  have hPc : va_P D vwCl [((a 3), f_rows a), ((a 4), f_words a), ((a 38), .inl (g 1, 12, .inr (.inl (fun _ => 0)))), ((a 39), .inl (g 1, 12, .inr (.inl (fun _ => 0)))), ((a 1), f_net a), ((a 2), f_book a)] _ := hP.sub (ws' := [((a 3), f_rows a), ((a 4), f_words a), ((a 38), .inl (g 1, 12, .inr (.inl (fun _ => 0)))), ((a 39), .inl (g 1, 12, .inr (.inl (fun _ => 0)))), ((a 1), f_net a), ((a 2), f_book a)]) [1, 2, 3, 4, 5, 6] rfl
  have hDc : va_D (fun q => z0 ≤ q) [((a 3), f_rows a), ((a 4), f_words a), ((a 38), .inl (g 1, 12, .inr (.inl (fun _ => 0)))), ((a 39), .inl (g 1, 12, .inr (.inl (fun _ => 0)))), ((a 1), f_net a), ((a 2), f_book a)] := (hD.to hAz).pick (ws' := [((a 3), f_rows a), ((a 4), f_words a), ((a 38), .inl (g 1, 12, .inr (.inl (fun _ => 0)))), ((a 39), .inl (g 1, 12, .inr (.inl (fun _ => 0)))), ((a 1), f_net a), ((a 2), f_book a)]) [1, 2, 3, 4, 5, 6] (by decide) rfl
  have hFc := va_free (wc := [((a 3), f_rows a), ((a 4), f_words a), ((a 38), .inl (g 1, 12, .inr (.inl (fun _ => 0)))), ((a 39), .inl (g 1, 12, .inr (.inl (fun _ => 0)))), ((a 1), f_net a), ((a 2), f_book a)]) hD hS hA [1, 2, 3, 4, 5, 6] rfl
  refine va_callv (va_runV (As := [.ref (a 3)]) (rest := []) ⟨hx, hb, hml, hown, ht⟩ (k_X10_findAll l D g z0 _ a) (cwV 1 ht (gV w_172 w_174 w_175 w_14 w_173) rfl rfl rfl (by decide +kernel) (le2 rfl rfl)) ⟨PP.blind, va_recv hK.1 hP (ci := 16) (q0 := 2) rfl rfl, PP.mk' hK hZ hz hAz hS hPc hDc⟩ rfl rfl hl.1 rfl (lv_room (Nat.le_of_ble_eq_true rfl)) dX11_isSound_8 (le2 rfl rfl)) hS (fun q _ h => hFc q h) hFc (fun u t H locs ht1 hvm hw hB hz1 hk1 hS => ?_)
  obtain ⟨hP1, hD1⟩ := hB
  rw [ht1] at hP1
  obtain ⟨hP, hD⟩ := va_join (wr := [((a 0), f_x a), ((a 47), .inl (g 0, 256, .inl (fun _ => 0))), ((a 8), f_chip a)]) (w1 := [((a 2), f_book a), ((a 3), f_rows a), ((a 38), .inl (g 1, 12, .inr (.inl (fun _ => 0)))), ((a 39), .inl (g 1, 12, .inr (.inl (fun _ => 0)))), ((a 4), f_words a), ((a 1), f_net a)]) hP hD [1, 2, 3, 4, 5, 6] [0, 7, 8] rfl rfl (by decide) (by decide) hk1 hFc hP1 hD1
  have hP : va_P D vwCl [((a 0), f_x a), ((a 47), .inl (g 0, 256, .inl (fun _ => 0))), ((a 8), f_chip a), ((a 2), f_book a), ((a 3), f_rows a), ((a 38), .inl (g 1, 12, .inr (.inl (fun _ => 0)))), ((a 39), .inl (g 1, 12, .inr (.inl (fun _ => 0)))), ((a 4), f_words a), ((a 1), f_net a)] H := hP
  have hD : va_D (va_A [((a 0), f_x a), ((a 3), f_rows a), ((a 4), f_words a), ((a 38), .inl (g 1, 12, .inr (.inl (fun _ => 0)))), ((a 39), .inl (g 1, 12, .inr (.inl (fun _ => 0)))), ((a 1), f_net a), ((a 2), f_book a), ((a 47), .inl (g 0, 256, .inl (fun _ => 0))), ((a 8), f_chip a)] s.heap.size) [((a 0), f_x a), ((a 47), .inl (g 0, 256, .inl (fun _ => 0))), ((a 8), f_chip a), ((a 2), f_book a), ((a 3), f_rows a), ((a 38), .inl (g 1, 12, .inr (.inl (fun _ => 0)))), ((a 39), .inl (g 1, 12, .inr (.inl (fun _ => 0)))), ((a 4), f_words a), ((a 1), f_net a)] := hD
  refine lv_aload_n hx hb dX11_isSound_11 rfl (lv_at hl 0 rfl) ?_
  have hPc : va_P D vwCl [((a 0), f_x a), ((a 3), f_rows a)] _ := hP.sub (ws' := [((a 0), f_x a), ((a 3), f_rows a)]) [0, 4] rfl
  have hDc : va_D (fun q => z0 ≤ q) [((a 0), f_x a), ((a 3), f_rows a)] := (hD.to hAz).pick (ws' := [((a 0), f_x a), ((a 3), f_rows a)]) [0, 4] (by decide) rfl
  have hFc := AnA (ws := [((a 0), f_x a), ((a 3), f_rows a), ((a 4), f_words a), ((a 38), .inl (g 1, 12, .inr (.inl (fun _ => 0)))), ((a 39), .inl (g 1, 12, .inr (.inl (fun _ => 0)))), ((a 1), f_net a), ((a 2), f_book a), ((a 47), .inl (g 0, 256, .inl (fun _ => 0))), ((a 8), f_chip a)]) hS.1
  refine va_calli (va_runV (As := []) (rest := []) ⟨hx, hb, hml, hown, ht⟩ (k_X11_doEnginesAgree l D g z0 _ a) (cwV 0 ht (gV w_221 w_223 w_224 w_31 w_222) rfl rfl rfl (by decide +kernel) (le2 rfl rfl)) ⟨PP.blind, va_recv hK.1 hP (ci := 17) (q0 := 0) rfl rfl, PP.mk' hK hZ hz hAz hS hPc hDc⟩ rfl rfl hl.1 rfl (lv_room (Nat.le_of_ble_eq_true rfl)) dX11_isSound_12 (le2 rfl rfl)) hS (fun q _ h => hFc q h) hFc (fun r u t H locs ht1 hvm hw hB hz1 hk1 hS => ?_)
  obtain ⟨rfl, hw⟩ := hw
  have hP := ro1 hP hk1
  refine lv_if_eq (tgt := 43) hx hb dX11_isSound_15 (by decide) (fun c_1 => ?_) (fun c_1 => ?_)
  · exact absurd c_1 (by decide)
  · refine lv_aload_n hx hb dX11_isSound_18 rfl (lv_at hl 0 rfl) ?_
    have hPc : va_P D vwCl [((a 0), f_x a), ((a 2), f_book a)] _ := hP.sub (ws' := [((a 0), f_x a), ((a 2), f_book a)]) [0, 3] rfl
    have hDc : va_D (fun q => z0 ≤ q) [((a 0), f_x a), ((a 2), f_book a)] := (hD.to hAz).pick (ws' := [((a 0), f_x a), ((a 2), f_book a)]) [0, 3] (by decide) rfl
    have hFc := AnA (ws := [((a 0), f_x a), ((a 3), f_rows a), ((a 4), f_words a), ((a 38), .inl (g 1, 12, .inr (.inl (fun _ => 0)))), ((a 39), .inl (g 1, 12, .inr (.inl (fun _ => 0)))), ((a 1), f_net a), ((a 2), f_book a), ((a 47), .inl (g 0, 256, .inl (fun _ => 0))), ((a 8), f_chip a)]) hS.1
    refine va_calli (va_runV (As := []) (rest := []) ⟨hx, hb, hml, hown, ht⟩ (k_X11_areLikesFoundAlike l D g z0 _ a) (cwV 0 ht (gV w_225 w_227 w_228 w_31 w_226) rfl rfl rfl (by decide +kernel) (le2 rfl rfl)) ⟨PP.blind, va_recv hK.1 hP (ci := 17) (q0 := 0) rfl rfl, PP.mk' hK hZ hz hAz hS hPc hDc⟩ rfl rfl hl.1 rfl (lv_room (Nat.le_of_ble_eq_true rfl)) dX11_isSound_19 (le2 rfl rfl)) hS (fun q _ h => hFc q h) hFc (fun r u t H locs ht1 hvm hw hB hz1 hk1 hS => ?_)
    obtain ⟨rfl, hw⟩ := hw
    have hP := ro1 hP hk1
    refine lv_if_eq (tgt := 43) hx hb dX11_isSound_22 (by decide) (fun c_2 => ?_) (fun c_2 => ?_)
    · exact absurd c_2 (by decide)
    · refine lv_aload_n hx hb dX11_isSound_25 rfl (lv_at hl 0 rfl) ?_
      have hPc : va_P D vwCl [((a 0), f_x a), ((a 4), f_words a), ((a 47), .inl (g 0, 256, .inl (fun _ => 0))), ((a 1), f_net a), ((a 2), f_book a)] _ := hP.sub (ws' := [((a 0), f_x a), ((a 4), f_words a), ((a 47), .inl (g 0, 256, .inl (fun _ => 0))), ((a 1), f_net a), ((a 2), f_book a)]) [0, 7, 1, 8, 3] rfl
      have hDc : va_D (fun q => z0 ≤ q) [((a 0), f_x a), ((a 4), f_words a), ((a 47), .inl (g 0, 256, .inl (fun _ => 0))), ((a 1), f_net a), ((a 2), f_book a)] := (hD.to hAz).pick (ws' := [((a 0), f_x a), ((a 4), f_words a), ((a 47), .inl (g 0, 256, .inl (fun _ => 0))), ((a 1), f_net a), ((a 2), f_book a)]) [0, 7, 1, 8, 3] (by decide) rfl
      have hFc := va_free (wc := [((a 0), f_x a), ((a 4), f_words a), ((a 47), .inl (g 0, 256, .inl (fun _ => 0))), ((a 1), f_net a), ((a 2), f_book a)]) hD hS hA [0, 7, 1, 8, 3] rfl
      refine va_calli (va_runV (As := []) (rest := []) ⟨hx, hb, hml, hown, ht⟩ (k_X11_isNoImpossibleFound l D g z0 _ a) (cwV 0 ht (gV w_229 w_231 w_232 w_31 w_230) rfl rfl rfl (by decide +kernel) (le2 rfl rfl)) ⟨PP.blind, va_recv hK.1 hP (ci := 17) (q0 := 0) rfl rfl, PP.mk' hK hZ hz hAz hS hPc hDc⟩ rfl rfl hl.1 rfl (lv_room (Nat.le_of_ble_eq_true rfl)) dX11_isSound_26 (le2 rfl rfl)) hS (fun q _ h => hFc q h) hFc (fun r u t H locs ht1 hvm hw hB hz1 hk1 hS => ?_)
      obtain ⟨rfl, hw⟩ := hw
      obtain ⟨hP1, hD1⟩ := hB
      rw [ht1] at hP1
      obtain ⟨hP, hD⟩ := va_join (wr := [((a 8), f_chip a), ((a 3), f_rows a), ((a 38), .inl (g 1, 12, .inr (.inl (fun _ => 0)))), ((a 39), .inl (g 1, 12, .inr (.inl (fun _ => 0))))]) (w1 := [((a 0), f_x a), ((a 2), f_book a), ((a 47), .inl (g 0, 256, .inl (fun _ => 0))), ((a 4), .inr (16, [.ref (a 1), .ref (a 2), .ref (a 38), .ref (a 39), .ref (a 40), .ref (a 41), .ref (a 42), .ref (a 43), .ref (a 44), .ref (a 45), .ref (a 46), .ref (a 47), .long 1, .long 0, .long 0, .int 0, .int (-1)])), ((a 1), f_net a)]) hP hD [0, 7, 1, 8, 3] [2, 4, 5, 6] rfl rfl (by decide) (by decide) hk1 hFc hP1 hD1
      have hP : va_P D vwCl [((a 8), f_chip a), ((a 3), f_rows a), ((a 38), .inl (g 1, 12, .inr (.inl (fun _ => 0)))), ((a 39), .inl (g 1, 12, .inr (.inl (fun _ => 0)))), ((a 0), f_x a), ((a 2), f_book a), ((a 47), .inl (g 0, 256, .inl (fun _ => 0))), ((a 4), .inr (16, [.ref (a 1), .ref (a 2), .ref (a 38), .ref (a 39), .ref (a 40), .ref (a 41), .ref (a 42), .ref (a 43), .ref (a 44), .ref (a 45), .ref (a 46), .ref (a 47), .long 1, .long 0, .long 0, .int 0, .int (-1)])), ((a 1), f_net a)] H := hP
      have hD : va_D (va_A [((a 0), f_x a), ((a 3), f_rows a), ((a 4), f_words a), ((a 38), .inl (g 1, 12, .inr (.inl (fun _ => 0)))), ((a 39), .inl (g 1, 12, .inr (.inl (fun _ => 0)))), ((a 1), f_net a), ((a 2), f_book a), ((a 47), .inl (g 0, 256, .inl (fun _ => 0))), ((a 8), f_chip a)] s.heap.size) [((a 8), f_chip a), ((a 3), f_rows a), ((a 38), .inl (g 1, 12, .inr (.inl (fun _ => 0)))), ((a 39), .inl (g 1, 12, .inr (.inl (fun _ => 0)))), ((a 0), f_x a), ((a 2), f_book a), ((a 47), .inl (g 0, 256, .inl (fun _ => 0))), ((a 4), .inr (16, [.ref (a 1), .ref (a 2), .ref (a 38), .ref (a 39), .ref (a 40), .ref (a 41), .ref (a 42), .ref (a 43), .ref (a 44), .ref (a 45), .ref (a 46), .ref (a 47), .long 1, .long 0, .long 0, .int 0, .int (-1)])), ((a 1), f_net a)] := hD
      refine lv_if_eq (tgt := 43) hx hb dX11_isSound_29 (by decide) (fun c_3 => ?_) (fun c_3 => ?_)
      · exact absurd c_3 (by decide)
      · refine lv_aload_n hx hb dX11_isSound_32 rfl (lv_at hl 0 rfl) ?_
        have hPc : va_P D vwCl [((a 0), f_x a), ((a 8), f_chip a)] _ := hP.sub (ws' := [((a 0), f_x a), ((a 8), f_chip a)]) [4, 0] rfl
        have hDc : va_D (fun q => z0 ≤ q) [((a 0), f_x a), ((a 8), f_chip a)] := (hD.to hAz).pick (ws' := [((a 0), f_x a), ((a 8), f_chip a)]) [4, 0] (by decide) rfl
        have hFc := AnA (ws := [((a 0), f_x a), ((a 3), f_rows a), ((a 4), f_words a), ((a 38), .inl (g 1, 12, .inr (.inl (fun _ => 0)))), ((a 39), .inl (g 1, 12, .inr (.inl (fun _ => 0)))), ((a 1), f_net a), ((a 2), f_book a), ((a 47), .inl (g 0, 256, .inl (fun _ => 0))), ((a 8), f_chip a)]) hS.1
        refine va_calli (va_runV (As := []) (rest := []) ⟨hx, hb, hml, hown, ht⟩ (k_X11_isChipTold l D g z0 _ a) (cwV 0 ht (gV w_234 w_236 w_237 w_31 w_235) rfl rfl rfl (by decide +kernel) (le2 rfl rfl)) ⟨PP.blind, va_recv hK.1 hP (ci := 17) (q0 := 4) rfl rfl, PP.mk' hK hZ hz hAz hS hPc hDc⟩ rfl rfl hl.1 rfl (lv_room (Nat.le_of_ble_eq_true rfl)) dX11_isSound_33 (le2 rfl rfl)) hS (fun q _ h => hFc q h) hFc (fun r u t H locs ht1 hvm hw hB hz1 hk1 hS => ?_)
        obtain ⟨rfl, hw⟩ := hw
        have hP := ro1 hP hk1
        refine lv_if_eq (tgt := 43) hx hb dX11_isSound_36 (by decide) (fun c_4 => ?_) (fun c_4 => ?_)
        · exact absurd c_4 (by decide)
        · refine lv_iconst (v := 1) hx hb dX11_isSound_39 (by decide) ?_
          refine lv_goto (tgt := 44) hx hb dX11_isSound_40 (by decide) ?_
          have hP9 := hP.sub (ws' := []) [] rfl
          have hD9 := hD.sub (ws' := []) [] (by decide) rfl
          refine W.widen (k := 0) (n := 0) (Nat.le_of_ble_eq_true rfl) (Nat.le_of_ble_eq_true rfl) ?_
          exact W.zret (v := 1) hx hb hr rfl (fun t ht9 hW9 => ⟨⟨1, (), rfl, ⟨rfl, trivial⟩, ⟨(by rw [ht9]; exact hP9), hD9⟩⟩, hS.F ht9⟩) hS.2.2 dX11_isSound_44 hlocks
set_option maxHeartbeats 4000000 in
set_option maxRecDepth 100000 in
theorem k_X11_known (l : Launch) (hfl : l.stackTraces = false) (D : va_G) (g : Nat → ClassId) (z0 sz : Nat) (a : Nat → Nat) (p0 : Int32) (p1 : Int32) : vx_Met l yX11_known (.code yX11_known cX11_known 3 (some .int) :: TG) (rmk 7 1 6 102) (va_Pc [.ref (a 0), .int p0, .int p1] (PP D g z0 sz [((a 0), f_x a), ((a 3), f_rows a)])) (va_Qi (fun (r : Int32) (u : Unit) => False) (fun (_ : Unit) (_ : State) => True) (va_A [] sz)) (vx_X (fun _ : Unit => True) (fun E _ _ => (E = "java/lang/IndexOutOfBoundsException" ∧ True)) (va_A [] sz)) 1 6 (va_A [] sz) := by
  refine vxm0 (cc := cX11_known) (n := 3) (by decide) (Nat.le_of_ble_eq_true rfl) ?_
  intro p e s m args below meth c hx hb hr hml htab hown ht hlocks hnm hP0 hD0 hK hZ hsz hz ls hl
  subst hsz
  have hA : ∀ q : Nat, s.heap.size ≤ q → va_A [] s.heap.size q := Anw
  have hAz : ∀ q, va_A [] s.heap.size q → z0 ≤ q := A0z hz
  have hS : va_S (va_A [] s.heap.size) s.heap s.heap [] := va_S.rf
  have hl : lv_has ls 3 [(0, .ref (a 0)), (1, .int p0), (2, .int p1)] := hl
  refine lv_aload_n hx hb dX11_known_0 rfl (lv_at hl 0 rfl) ?_
  refine lv_iload_n hx hb dX11_known_1 rfl (lv_at hl 1 rfl) ?_
  have hPc : va_P D vwCl [((a 0), f_x a), ((a 3), f_rows a)] _ := (ro0 hP0 hS).sub (ws' := [((a 0), f_x a), ((a 3), f_rows a)]) [0, 1] rfl
  have hDc : va_D (fun q => z0 ≤ q) [((a 0), f_x a), ((a 3), f_rows a)] := hD0.pick (ws' := [((a 0), f_x a), ((a 3), f_rows a)]) [0, 1] (by decide) rfl
  have hFc := AnA (ws := []) hS.1
  refine vx_callv (vx_runV (As := [.int p0]) (rest := []) ⟨hx, hb, hml, hown, ht⟩ (k_X11_needPattern l hfl D g z0 _ a p0) (cwV 1 ht (gV w_183 w_185 w_186 w_31 w_184) rfl rfl rfl (by decide +kernel) (le2 rfl rfl)) ⟨PP.blind, va_recv hK.1 (ro0 hP0 hS) (ci := 17) (q0 := 0) rfl rfl, PP.mk' hK hZ hz hAz hS hPc hDc⟩ rfl rfl hl.1 rfl (lv_room (Nat.le_of_ble_eq_true rfl)) dX11_known_2 (le2 rfl rfl)) hS (fun q _ h => hFc q h) hFc (fun q _ h => hFc q h) (fun E ce q9 u t H locs ht1 hvm hw hB hz1 hk1 hS hcell hv9 hcl => ?_) (fun u t H locs ht1 hvm hw hB hz1 hk1 hS => ?_)
  · obtain ⟨rfl, hB⟩ := hB
    exact out0 htab hlocks hS hcell hv9 hcl (fun t _ hF => ⟨(), trivial, ⟨rfl, trivial⟩, hF⟩) (fun _ h => h) rfl rfl
  · exact hw.elim
set_option maxHeartbeats 4000000 in
set_option maxRecDepth 100000 in
theorem k_X11_needRoomForCores (l : Launch) (hfl : l.stackTraces = false) (D : va_G) (g : Nat → ClassId) (z0 sz : Nat) (a : Nat → Nat) (p0 : Int32) (p1 : Int32) : vx_Met l yX11_needRoomForCores (.code yX11_needRoomForCores cX11_needRoomForCores 3 none :: TG) (rmk 6 1 6 81) (va_Pc [.ref (a 0), .int p0, .int p1] (PP D g z0 sz [((a 0), f_x a), ((a 11), f_cores a)])) (va_Qv (fun (u : Unit) => False) (fun (_ : Unit) (_ : State) => True) (va_A [] sz)) (vx_X (fun _ : Unit => True) (fun E _ _ => (E = "java/util/NoSuchElementException" ∧ True)) (va_A [] sz)) 1 6 (va_A [] sz) := by
  refine vxm0 (cc := cX11_needRoomForCores) (n := 3) (by decide) (Nat.le_of_ble_eq_true rfl) ?_
  intro p e s m args below meth c hx hb hr hml htab hown ht hlocks hnm hP0 hD0 hK hZ hsz hz ls hl
  subst hsz
  have hA : ∀ q : Nat, s.heap.size ≤ q → va_A [] s.heap.size q := Anw
  have hAz : ∀ q, va_A [] s.heap.size q → z0 ≤ q := A0z hz
  have hS : va_S (va_A [] s.heap.size) s.heap s.heap [] := va_S.rf
  have hl : lv_has ls 3 [(0, .ref (a 0)), (1, .int p0), (2, .int p1)] := hl
  refine lv_aload_n hx hb dX11_needRoomForCores_0 rfl (lv_at hl 0 rfl) ?_
  refine va_get (D := D) (ci := 17) (v := .ref (a 11)) (C := RX11) (T := TX11) (N := 11) hx hb ht in_X11 hown hK.1 (ro0 hP0 hS) 0 rfl rfl 10 (by decide) (ht _ w_49) (fun _ h9 => h9) rfl dX11_needRoomForCores_1 ?_
  refine va_get (D := D) (ci := 8) (v := .int 0) (C := RX2) (T := TX2) (N := 7) hx hb ht in_X2 hown hK.1 (ro0 hP0 hS) 1 rfl rfl 6 (by decide) (ht _ w_50) (fun _ h9 => h9) rfl dX11_needRoomForCores_4 ?_
  refine lv_if_eq (tgt := 22) hx hb dX11_needRoomForCores_7 (by decide) (fun c_1 => ?_) (fun c_1 => ?_)
  · exact thr0 hx hb hfl hown ht hK.2.2 hZ hAz hS hl hml htab hlocks (by decide +kernel) w_117 w_118 at_X11_312 dX11_needRoomForCores_22 dX11_needRoomForCores_25 dX11_needRoomForCores_26 dX11_needRoomForCores_29 rfl rfl rfl rfl (fun t _ hF => ⟨(), trivial, ⟨rfl, trivial⟩, hF⟩) (fun _ h => h) rfl rfl
  · exact absurd c_1 (by decide)
set_option maxHeartbeats 4000000 in
set_option maxRecDepth 100000 in
theorem k_X11_least (l : Launch) (hfl : l.stackTraces = false) (D : va_G) (g : Nat → ClassId) (z0 sz : Nat) (a : Nat → Nat) (p0 : Int32) (p1 : Int32) : vx_Met l yX11_least (.code yX11_least cX11_least 3 (some .int) :: TG) (rmk 7 1 6 103) (va_Pc [.ref (a 0), .int p0, .int p1] (PP D g z0 sz [((a 0), f_x a), ((a 11), f_cores a)])) (va_Qi (fun (r : Int32) (u : Unit) => False) (fun (_ : Unit) (_ : State) => True) (va_A [] sz)) (vx_X (fun _ : Unit => True) (fun E _ _ => (E = "java/util/NoSuchElementException" ∧ True)) (va_A [] sz)) 1 6 (va_A [] sz) := by
  refine vxm0 (cc := cX11_least) (n := 3) (by decide) (Nat.le_of_ble_eq_true rfl) ?_
  intro p e s m args below meth c hx hb hr hml htab hown ht hlocks hnm hP0 hD0 hK hZ hsz hz ls hl
  subst hsz
  have hA : ∀ q : Nat, s.heap.size ≤ q → va_A [] s.heap.size q := Anw
  have hAz : ∀ q, va_A [] s.heap.size q → z0 ≤ q := A0z hz
  have hS : va_S (va_A [] s.heap.size) s.heap s.heap [] := va_S.rf
  have hl : lv_has ls 3 [(0, .ref (a 0)), (1, .int p0), (2, .int p1)] := hl
  refine lv_aload_n hx hb dX11_least_0 rfl (lv_at hl 0 rfl) ?_
  refine lv_iload_n hx hb dX11_least_1 rfl (lv_at hl 1 rfl) ?_
  refine lv_iload_n hx hb dX11_least_2 rfl (lv_at hl 2 rfl) ?_
  have hPc : va_P D vwCl [((a 0), f_x a), ((a 11), f_cores a)] _ := (ro0 hP0 hS).sub (ws' := [((a 0), f_x a), ((a 11), f_cores a)]) [0, 1] rfl
  have hDc : va_D (fun q => z0 ≤ q) [((a 0), f_x a), ((a 11), f_cores a)] := hD0.pick (ws' := [((a 0), f_x a), ((a 11), f_cores a)]) [0, 1] (by decide) rfl
  have hFc := AnA (ws := []) hS.1
  refine vx_callv (vx_runV (As := [.int p0, .int p1]) (rest := []) ⟨hx, hb, hml, hown, ht⟩ (k_X11_needRoomForCores l hfl D g z0 _ a p0 p1) (cwV 2 ht (gV w_238 w_240 w_241 w_31 w_239) rfl rfl rfl (by decide +kernel) (le2 rfl rfl)) ⟨PP.blind, va_recv hK.1 (ro0 hP0 hS) (ci := 17) (q0 := 0) rfl rfl, PP.mk' hK hZ hz hAz hS hPc hDc⟩ rfl rfl hl.1 rfl (lv_room (Nat.le_of_ble_eq_true rfl)) dX11_least_3 (le2 rfl rfl)) hS (fun q _ h => hFc q h) hFc (fun q _ h => hFc q h) (fun E ce q9 u t H locs ht1 hvm hw hB hz1 hk1 hS hcell hv9 hcl => ?_) (fun u t H locs ht1 hvm hw hB hz1 hk1 hS => ?_)
  · obtain ⟨rfl, hB⟩ := hB
    exact out0 htab hlocks hS hcell hv9 hcl (fun t _ hF => ⟨(), trivial, ⟨rfl, trivial⟩, hF⟩) (fun _ h => h) rfl rfl
  · exact hw.elim
set_option maxHeartbeats 4000000 in
set_option maxRecDepth 100000 in
theorem k_X11_lineOf (l : Launch) (hfl : l.stackTraces = false) (D : va_G) (g : Nat → ClassId) (z0 sz : Nat) (a : Nat → Nat) (p0 : Int32) : vx_Met l yX11_lineOf (.code yX11_lineOf cX11_lineOf 2 (some .int) :: TG) (rmk 7 1 6 102) (va_Pc [.ref (a 0), .int p0] (PP D g z0 sz [((a 0), f_x a), ((a 2), f_book a)])) (va_Qi (fun (r : Int32) (u : Unit) => False) (fun (_ : Unit) (_ : State) => True) (va_A [] sz)) (vx_X (fun _ : Unit => True) (fun E _ _ => (E = "java/lang/IndexOutOfBoundsException" ∧ True)) (va_A [] sz)) 1 6 (va_A [] sz) := by
  refine vxm0 (cc := cX11_lineOf) (n := 2) (by decide) (Nat.le_of_ble_eq_true rfl) ?_
  intro p e s m args below meth c hx hb hr hml htab hown ht hlocks hnm hP0 hD0 hK hZ hsz hz ls hl
  subst hsz
  have hA : ∀ q : Nat, s.heap.size ≤ q → va_A [] s.heap.size q := Anw
  have hAz : ∀ q, va_A [] s.heap.size q → z0 ≤ q := A0z hz
  have hS : va_S (va_A [] s.heap.size) s.heap s.heap [] := va_S.rf
  have hl : lv_has ls 2 [(0, .ref (a 0)), (1, .int p0)] := hl
  refine lv_aload_n hx hb dX11_lineOf_0 rfl (lv_at hl 0 rfl) ?_
  refine lv_iload_n hx hb dX11_lineOf_1 rfl (lv_at hl 1 rfl) ?_
  have hPc : va_P D vwCl [((a 0), f_x a), ((a 2), f_book a)] _ := (ro0 hP0 hS).sub (ws' := [((a 0), f_x a), ((a 2), f_book a)]) [0, 1] rfl
  have hDc : va_D (fun q => z0 ≤ q) [((a 0), f_x a), ((a 2), f_book a)] := hD0.pick (ws' := [((a 0), f_x a), ((a 2), f_book a)]) [0, 1] (by decide) rfl
  have hFc := AnA (ws := []) hS.1
  refine vx_callv (vx_runV (As := [.int p0]) (rest := []) ⟨hx, hb, hml, hown, ht⟩ (k_X11_needFault l hfl D g z0 _ a p0) (cwV 1 ht (gV w_37 w_39 w_40 w_31 w_38) rfl rfl rfl (by decide +kernel) (le2 rfl rfl)) ⟨PP.blind, va_recv hK.1 (ro0 hP0 hS) (ci := 17) (q0 := 0) rfl rfl, PP.mk' hK hZ hz hAz hS hPc hDc⟩ rfl rfl hl.1 rfl (lv_room (Nat.le_of_ble_eq_true rfl)) dX11_lineOf_2 (le2 rfl rfl)) hS (fun q _ h => hFc q h) hFc (fun q _ h => hFc q h) (fun E ce q9 u t H locs ht1 hvm hw hB hz1 hk1 hS hcell hv9 hcl => ?_) (fun u t H locs ht1 hvm hw hB hz1 hk1 hS => ?_)
  · obtain ⟨rfl, hB⟩ := hB
    exact out0 htab hlocks hS hcell hv9 hcl (fun t _ hF => ⟨(), trivial, ⟨rfl, trivial⟩, hF⟩) (fun _ h => h) rfl rfl
  · exact hw.elim
set_option maxHeartbeats 4000000 in
set_option maxRecDepth 100000 in
theorem k_X11_make (l : Launch) (hfl : l.stackTraces = false) (D : va_G) (g : Nat → ClassId) (z0 sz : Nat) (a : Nat → Nat) (p0 : Int32) : vx_Met l yX11_make (.code yX11_make cX11_make 6 (some .int) :: TG) (rmk 8 1 6 123) (va_Pc [.ref (a 0), .int p0] (PP D g z0 sz [((a 0), f_x a), ((a 2), f_book a)])) (va_Qi (fun (r : Int32) (u : Unit) => False) (fun (_ : Unit) (_ : State) => True) (va_A [] sz)) (vx_X (fun _ : Unit => True) (fun E _ _ => (E = "java/lang/IndexOutOfBoundsException" ∧ True)) (va_A [] sz)) 1 6 (va_A [] sz) := by
  refine vxm0 (cc := cX11_make) (n := 6) (by decide) (Nat.le_of_ble_eq_true rfl) ?_
  intro p e s m args below meth c hx hb hr hml htab hown ht hlocks hnm hP0 hD0 hK hZ hsz hz ls hl
  subst hsz
  have hA : ∀ q : Nat, s.heap.size ≤ q → va_A [] s.heap.size q := Anw
  have hAz : ∀ q, va_A [] s.heap.size q → z0 ≤ q := A0z hz
  have hS : va_S (va_A [] s.heap.size) s.heap s.heap [] := va_S.rf
  have hl : lv_has ls 6 [(0, .ref (a 0)), (1, .int p0)] := hl
  refine lv_aload_n hx hb dX11_make_0 rfl (lv_at hl 0 rfl) ?_
  refine lv_iload_n hx hb dX11_make_1 rfl (lv_at hl 1 rfl) ?_
  have hPc : va_P D vwCl [((a 0), f_x a), ((a 2), f_book a)] _ := (ro0 hP0 hS).sub (ws' := [((a 0), f_x a), ((a 2), f_book a)]) [0, 1] rfl
  have hDc : va_D (fun q => z0 ≤ q) [((a 0), f_x a), ((a 2), f_book a)] := hD0.pick (ws' := [((a 0), f_x a), ((a 2), f_book a)]) [0, 1] (by decide) rfl
  have hFc := AnA (ws := []) hS.1
  refine vx_callv (vx_runV (As := [.int p0]) (rest := []) ⟨hx, hb, hml, hown, ht⟩ (k_X11_needNotSlow l hfl D g z0 _ a p0) (cwV 1 ht (gV w_210 w_212 w_213 w_31 w_211) rfl rfl rfl (by decide +kernel) (le2 rfl rfl)) ⟨PP.blind, va_recv hK.1 (ro0 hP0 hS) (ci := 17) (q0 := 0) rfl rfl, PP.mk' hK hZ hz hAz hS hPc hDc⟩ rfl rfl hl.1 rfl (lv_room (Nat.le_of_ble_eq_true rfl)) dX11_make_2 (le2 rfl rfl)) hS (fun q _ h => hFc q h) hFc (fun q _ h => hFc q h) (fun E ce q9 u t H locs ht1 hvm hw hB hz1 hk1 hS hcell hv9 hcl => ?_) (fun u t H locs ht1 hvm hw hB hz1 hk1 hS => ?_)
  · obtain ⟨rfl, hB⟩ := hB
    exact out0 htab hlocks hS hcell hv9 hcl (fun t _ hF => ⟨(), trivial, ⟨rfl, trivial⟩, hF⟩) (fun _ h => h) rfl rfl
  · exact hw.elim
set_option maxHeartbeats 4000000 in
set_option maxRecDepth 100000 in
theorem k_X5_isElement (l : Launch) (D : va_G) (g : Nat → ClassId) (z0 sz : Nat) (a : Nat → Nat) (p0 : Int32) (hc_p0 : isC p0) : Met l yX5_isElement (.code yX5_isElement cX5_isElement 1 (some .boolean) :: TG) (rmk 0 0 0 0) (va_Pc [.int p0] (PP D g z0 sz [])) (va_Qi (fun (r : Int32) (u : Unit) => ((r = 1) ∧ ((p0 = 94) ∨ ((¬ p0 = 94) ∧ (p0 = 118)))) ∨ ((r = 0) ∧ ((¬ p0 = 94) ∧ (¬ p0 = 118)))) (fun (_ : Unit) (_ : State) => True) (va_A [] sz)) 0 0 (va_A [] sz) := by
  refine met0 (cc := cX5_isElement) (n := 1) (by decide) (Nat.le_of_ble_eq_true rfl) ?_
  intro p e s m args below meth c hx hb hr hml hown ht hlocks hnm hP0 hD0 hK hZ hsz hz ls hl
  subst hsz
  have hA : ∀ q : Nat, s.heap.size ≤ q → va_A [] s.heap.size q := Anw
  have hAz : ∀ q, va_A [] s.heap.size q → z0 ≤ q := A0z hz
  have hS : va_S (va_A [] s.heap.size) s.heap s.heap [] := va_S.rf
  have hl : lv_has ls 1 [(0, .int p0)] := hl
  refine lv_iload_n hx hb dX5_isElement_0 rfl (lv_at hl 0 rfl) ?_
  refine lv_bipush (v := 94) hx hb dX5_isElement_1 (by decide) ?_
  refine lv_icmp_eq (tgt := 12) hx hb dX5_isElement_3 (by decide) (fun c_1 => ?_) (fun c_1 => ?_)
  · refine lv_iconst (v := 1) hx hb dX5_isElement_12 (by decide) ?_
    refine lv_goto (tgt := 17) hx hb dX5_isElement_13 (by decide) ?_
    refine W.widen (k := 0) (n := 0) (Nat.le_of_ble_eq_true rfl) (Nat.le_of_ble_eq_true rfl) ?_
    exact W.zret (v := 1) hx hb hr rfl (fun t ht9 hW9 => ⟨⟨1, (), rfl, (Or.inl ⟨rfl, (Or.inl c_1)⟩), trivial⟩, hS.F ht9⟩) hS.2.2 dX5_isElement_17 hlocks
  · refine lv_iload_n hx hb dX5_isElement_6 rfl (lv_at hl 0 rfl) ?_
    refine lv_bipush (v := 118) hx hb dX5_isElement_7 (by decide) ?_
    refine lv_icmp_ne (tgt := 16) hx hb dX5_isElement_9 (by decide) (fun c_2 => ?_) (fun c_2 => ?_)
    · refine lv_iconst (v := 0) hx hb dX5_isElement_16 (by decide) ?_
      refine W.widen (k := 0) (n := 0) (Nat.le_of_ble_eq_true rfl) (Nat.le_of_ble_eq_true rfl) ?_
      exact W.zret (v := 0) hx hb hr rfl (fun t ht9 hW9 => ⟨⟨0, (), rfl, (Or.inr ⟨rfl, ⟨c_1, c_2⟩⟩), trivial⟩, hS.F ht9⟩) hS.2.2 dX5_isElement_17 hlocks
    · refine lv_iconst (v := 1) hx hb dX5_isElement_12 (by decide) ?_
      refine lv_goto (tgt := 17) hx hb dX5_isElement_13 (by decide) ?_
      refine W.widen (k := 0) (n := 0) (Nat.le_of_ble_eq_true rfl) (Nat.le_of_ble_eq_true rfl) ?_
      exact W.zret (v := 1) hx hb hr rfl (fun t ht9 hW9 => ⟨⟨1, (), rfl, (Or.inl ⟨rfl, (Or.inr ⟨c_1, c_2⟩)⟩), trivial⟩, hS.F ht9⟩) hS.2.2 dX5_isElement_17 hlocks
set_option maxHeartbeats 4000000 in
set_option maxRecDepth 100000 in
theorem k_X5_isWrite (l : Launch) (D : va_G) (g : Nat → ClassId) (z0 sz : Nat) (a : Nat → Nat) (p0 : Int32) (hc_p0 : isC p0) : Met l yX5_isWrite (.code yX5_isWrite cX5_isWrite 1 (some .boolean) :: TG) (rmk 0 0 0 0) (va_Pc [.int p0] (PP D g z0 sz [])) (va_Qi (fun (r : Int32) (u : Unit) => ((r = 1) ∧ ((p0 = 48) ∨ ((¬ p0 = 48) ∧ (p0 = 49)))) ∨ ((r = 0) ∧ ((¬ p0 = 48) ∧ (¬ p0 = 49)))) (fun (_ : Unit) (_ : State) => True) (va_A [] sz)) 0 0 (va_A [] sz) := by
  refine met0 (cc := cX5_isWrite) (n := 1) (by decide) (Nat.le_of_ble_eq_true rfl) ?_
  intro p e s m args below meth c hx hb hr hml hown ht hlocks hnm hP0 hD0 hK hZ hsz hz ls hl
  subst hsz
  have hA : ∀ q : Nat, s.heap.size ≤ q → va_A [] s.heap.size q := Anw
  have hAz : ∀ q, va_A [] s.heap.size q → z0 ≤ q := A0z hz
  have hS : va_S (va_A [] s.heap.size) s.heap s.heap [] := va_S.rf
  have hl : lv_has ls 1 [(0, .int p0)] := hl
  refine lv_iload_n hx hb dX5_isWrite_0 rfl (lv_at hl 0 rfl) ?_
  refine lv_bipush (v := 48) hx hb dX5_isWrite_1 (by decide) ?_
  refine lv_icmp_eq (tgt := 12) hx hb dX5_isWrite_3 (by decide) (fun c_1 => ?_) (fun c_1 => ?_)
  · refine lv_iconst (v := 1) hx hb dX5_isWrite_12 (by decide) ?_
    refine lv_goto (tgt := 17) hx hb dX5_isWrite_13 (by decide) ?_
    refine W.widen (k := 0) (n := 0) (Nat.le_of_ble_eq_true rfl) (Nat.le_of_ble_eq_true rfl) ?_
    exact W.zret (v := 1) hx hb hr rfl (fun t ht9 hW9 => ⟨⟨1, (), rfl, (Or.inl ⟨rfl, (Or.inl c_1)⟩), trivial⟩, hS.F ht9⟩) hS.2.2 dX5_isWrite_17 hlocks
  · refine lv_iload_n hx hb dX5_isWrite_6 rfl (lv_at hl 0 rfl) ?_
    refine lv_bipush (v := 49) hx hb dX5_isWrite_7 (by decide) ?_
    refine lv_icmp_ne (tgt := 16) hx hb dX5_isWrite_9 (by decide) (fun c_2 => ?_) (fun c_2 => ?_)
    · refine lv_iconst (v := 0) hx hb dX5_isWrite_16 (by decide) ?_
      refine W.widen (k := 0) (n := 0) (Nat.le_of_ble_eq_true rfl) (Nat.le_of_ble_eq_true rfl) ?_
      exact W.zret (v := 0) hx hb hr rfl (fun t ht9 hW9 => ⟨⟨0, (), rfl, (Or.inr ⟨rfl, ⟨c_1, c_2⟩⟩), trivial⟩, hS.F ht9⟩) hS.2.2 dX5_isWrite_17 hlocks
    · refine lv_iconst (v := 1) hx hb dX5_isWrite_12 (by decide) ?_
      refine lv_goto (tgt := 17) hx hb dX5_isWrite_13 (by decide) ?_
      refine W.widen (k := 0) (n := 0) (Nat.le_of_ble_eq_true rfl) (Nat.le_of_ble_eq_true rfl) ?_
      exact W.zret (v := 1) hx hb hr rfl (fun t ht9 hW9 => ⟨⟨1, (), rfl, (Or.inl ⟨rfl, (Or.inr ⟨c_1, c_2⟩)⟩), trivial⟩, hS.F ht9⟩) hS.2.2 dX5_isWrite_17 hlocks
set_option maxHeartbeats 4000000 in
set_option maxRecDepth 100000 in
theorem k_X5_isSign (l : Launch) (D : va_G) (g : Nat → ClassId) (z0 sz : Nat) (a : Nat → Nat) (p0 : Int32) (hc_p0 : isC p0) : Met l yX5_isSign (.code yX5_isSign cX5_isSign 1 (some .boolean) :: TG) (rmk 1 0 0 20) (va_Pc [.int p0] (PP D g z0 sz [])) (va_Qi (fun (r : Int32) (u : Unit) => ((r = 1) ∧ ((p0 = 94) ∨ ((¬ p0 = 94) ∧ (p0 = 118)) ∨ ((¬ p0 = 94) ∧ (¬ p0 = 118) ∧ (p0 = 48)) ∨ ((¬ p0 = 94) ∧ (¬ p0 = 118) ∧ (¬ p0 = 48) ∧ (p0 = 49)) ∨ ((¬ p0 = 94) ∧ (¬ p0 = 118) ∧ (¬ p0 = 48) ∧ (¬ p0 = 49) ∧ (p0 = 122)) ∨ ((¬ p0 = 94) ∧ (¬ p0 = 118) ∧ (¬ p0 = 48) ∧ (¬ p0 = 49) ∧ (¬ p0 = 122) ∧ (p0 = 111)))) ∨ ((r = 0) ∧ ((¬ p0 = 94) ∧ (¬ p0 = 118) ∧ (¬ p0 = 48) ∧ (¬ p0 = 49) ∧ (¬ p0 = 122) ∧ (¬ p0 = 111)))) (fun (_ : Unit) (_ : State) => True) (va_A [] sz)) 0 0 (va_A [] sz) := by
  refine met0 (cc := cX5_isSign) (n := 1) (by decide) (Nat.le_of_ble_eq_true rfl) ?_
  intro p e s m args below meth c hx hb hr hml hown ht hlocks hnm hP0 hD0 hK hZ hsz hz ls hl
  subst hsz
  have hA : ∀ q : Nat, s.heap.size ≤ q → va_A [] s.heap.size q := Anw
  have hAz : ∀ q, va_A [] s.heap.size q → z0 ≤ q := A0z hz
  have hS : va_S (va_A [] s.heap.size) s.heap s.heap [] := va_S.rf
  have hl : lv_has ls 1 [(0, .int p0)] := hl
  refine lv_iload_n hx hb dX5_isSign_0 rfl (lv_at hl 0 rfl) ?_
  have hPc : va_P D vwCl [] _ := (ro0 hP0 hS).sub (ws' := []) [] rfl
  have hDc : va_D (fun q => z0 ≤ q) [] := hD0.pick (ws' := []) [] (by decide) rfl
  have hFc := AnA (ws := []) hS.1
  refine va_calli (va_runS (As := [.int p0]) (rest := []) ⟨hx, hb, hml, hown, ht⟩ (k_X5_isElement l D g z0 _ a p0 hc_p0) (va_cwS 1 ht (gS w_242 w_244 w_220 w_243) rfl rfl rfl (by decide +kernel) (le2 rfl rfl)) ⟨PP.blind, PP.mk' hK hZ hz hAz hS hPc hDc⟩ rfl rfl hl.1 rfl (lv_room (Nat.le_of_ble_eq_true rfl)) dX5_isSign_1 (le2 rfl rfl)) hS (fun q _ h => hFc q h) hFc (fun r u t H locs ht1 hvm hw hB hz1 hk1 hS => ?_)
  rcases hw with hw | hw
  · obtain ⟨rfl, hw⟩ := hw
    rcases hw with hw | hw
    · have c_1 := hw
      refine lv_if_ne (tgt := 26) hx hb dX5_isSign_4 (by decide) (fun c_2 => ?_) (fun c_2 => ?_)
      · refine lv_iconst (v := 1) hx hb dX5_isSign_26 (by decide) ?_
        refine lv_goto (tgt := 31) hx hb dX5_isSign_27 (by decide) ?_
        refine W.widen (k := 0) (n := 0) (Nat.le_of_ble_eq_true rfl) (Nat.le_of_ble_eq_true rfl) ?_
        exact W.zret (v := 1) hx hb hr rfl (fun t ht9 hW9 => ⟨⟨1, (), rfl, (Or.inl ⟨rfl, (Or.inl c_1)⟩), trivial⟩, hS.F ht9⟩) hS.2.2 dX5_isSign_31 hlocks
      · exact absurd c_2 (by decide)
    · obtain ⟨c_3, c_4⟩ := hw
      refine lv_if_ne (tgt := 26) hx hb dX5_isSign_4 (by decide) (fun c_5 => ?_) (fun c_5 => ?_)
      · refine lv_iconst (v := 1) hx hb dX5_isSign_26 (by decide) ?_
        refine lv_goto (tgt := 31) hx hb dX5_isSign_27 (by decide) ?_
        refine W.widen (k := 0) (n := 0) (Nat.le_of_ble_eq_true rfl) (Nat.le_of_ble_eq_true rfl) ?_
        exact W.zret (v := 1) hx hb hr rfl (fun t ht9 hW9 => ⟨⟨1, (), rfl, (Or.inl ⟨rfl, (Or.inr (Or.inl ⟨c_3, c_4⟩))⟩), trivial⟩, hS.F ht9⟩) hS.2.2 dX5_isSign_31 hlocks
      · exact absurd c_5 (by decide)
  · obtain ⟨rfl, hw⟩ := hw
    obtain ⟨c_6, c_7⟩ := hw
    refine lv_if_ne (tgt := 26) hx hb dX5_isSign_4 (by decide) (fun c_8 => ?_) (fun c_8 => ?_)
    · exact absurd c_8 (by decide)
    · refine lv_iload_n hx hb dX5_isSign_7 rfl (lv_at hl 0 rfl) ?_
      have hPc : va_P D vwCl [] _ := (ro0 hP0 hS).sub (ws' := []) [] rfl
      have hDc : va_D (fun q => z0 ≤ q) [] := hD0.pick (ws' := []) [] (by decide) rfl
      have hFc := AnA (ws := []) hS.1
      refine va_calli (va_runS (As := [.int p0]) (rest := []) ⟨hx, hb, hml, hown, ht⟩ (k_X5_isWrite l D g z0 _ a p0 hc_p0) (va_cwS 1 ht (gS w_245 w_247 w_220 w_246) rfl rfl rfl (by decide +kernel) (le2 rfl rfl)) ⟨PP.blind, PP.mk' hK hZ hz hAz hS hPc hDc⟩ rfl rfl hl.1 rfl (lv_room (Nat.le_of_ble_eq_true rfl)) dX5_isSign_8 (le2 rfl rfl)) hS (fun q _ h => hFc q h) hFc (fun r u t H locs ht1 hvm hw hB hz1 hk1 hS => ?_)
      rcases hw with hw | hw
      · obtain ⟨rfl, hw⟩ := hw
        rcases hw with hw | hw
        · have c_9 := hw
          refine lv_if_ne (tgt := 26) hx hb dX5_isSign_11 (by decide) (fun c_10 => ?_) (fun c_10 => ?_)
          · refine lv_iconst (v := 1) hx hb dX5_isSign_26 (by decide) ?_
            refine lv_goto (tgt := 31) hx hb dX5_isSign_27 (by decide) ?_
            refine W.widen (k := 0) (n := 0) (Nat.le_of_ble_eq_true rfl) (Nat.le_of_ble_eq_true rfl) ?_
            exact W.zret (v := 1) hx hb hr rfl (fun t ht9 hW9 => ⟨⟨1, (), rfl, (Or.inl ⟨rfl, (Or.inr (Or.inr (Or.inl ⟨c_6, c_7, c_9⟩)))⟩), trivial⟩, hS.F ht9⟩) hS.2.2 dX5_isSign_31 hlocks
          · exact absurd c_10 (by decide)
        · obtain ⟨c_11, c_12⟩ := hw
          refine lv_if_ne (tgt := 26) hx hb dX5_isSign_11 (by decide) (fun c_13 => ?_) (fun c_13 => ?_)
          · refine lv_iconst (v := 1) hx hb dX5_isSign_26 (by decide) ?_
            refine lv_goto (tgt := 31) hx hb dX5_isSign_27 (by decide) ?_
            refine W.widen (k := 0) (n := 0) (Nat.le_of_ble_eq_true rfl) (Nat.le_of_ble_eq_true rfl) ?_
            exact W.zret (v := 1) hx hb hr rfl (fun t ht9 hW9 => ⟨⟨1, (), rfl, (Or.inl ⟨rfl, (Or.inr (Or.inr (Or.inr (Or.inl ⟨c_6, c_7, c_11, c_12⟩))))⟩), trivial⟩, hS.F ht9⟩) hS.2.2 dX5_isSign_31 hlocks
          · exact absurd c_13 (by decide)
      · obtain ⟨rfl, hw⟩ := hw
        obtain ⟨c_14, c_15⟩ := hw
        refine lv_if_ne (tgt := 26) hx hb dX5_isSign_11 (by decide) (fun c_16 => ?_) (fun c_16 => ?_)
        · exact absurd c_16 (by decide)
        · refine lv_iload_n hx hb dX5_isSign_14 rfl (lv_at hl 0 rfl) ?_
          refine lv_bipush (v := 122) hx hb dX5_isSign_15 (by decide) ?_
          refine lv_icmp_eq (tgt := 26) hx hb dX5_isSign_17 (by decide) (fun c_17 => ?_) (fun c_17 => ?_)
          · refine lv_iconst (v := 1) hx hb dX5_isSign_26 (by decide) ?_
            refine lv_goto (tgt := 31) hx hb dX5_isSign_27 (by decide) ?_
            refine W.widen (k := 0) (n := 0) (Nat.le_of_ble_eq_true rfl) (Nat.le_of_ble_eq_true rfl) ?_
            exact W.zret (v := 1) hx hb hr rfl (fun t ht9 hW9 => ⟨⟨1, (), rfl, (Or.inl ⟨rfl, (Or.inr (Or.inr (Or.inr (Or.inr (Or.inl ⟨c_6, c_7, c_14, c_15, c_17⟩)))))⟩), trivial⟩, hS.F ht9⟩) hS.2.2 dX5_isSign_31 hlocks
          · refine lv_iload_n hx hb dX5_isSign_20 rfl (lv_at hl 0 rfl) ?_
            refine lv_bipush (v := 111) hx hb dX5_isSign_21 (by decide) ?_
            refine lv_icmp_ne (tgt := 30) hx hb dX5_isSign_23 (by decide) (fun c_18 => ?_) (fun c_18 => ?_)
            · refine lv_iconst (v := 0) hx hb dX5_isSign_30 (by decide) ?_
              refine W.widen (k := 0) (n := 0) (Nat.le_of_ble_eq_true rfl) (Nat.le_of_ble_eq_true rfl) ?_
              exact W.zret (v := 0) hx hb hr rfl (fun t ht9 hW9 => ⟨⟨0, (), rfl, (Or.inr ⟨rfl, ⟨c_6, c_7, c_14, c_15, c_17, c_18⟩⟩), trivial⟩, hS.F ht9⟩) hS.2.2 dX5_isSign_31 hlocks
            · refine lv_iconst (v := 1) hx hb dX5_isSign_26 (by decide) ?_
              refine lv_goto (tgt := 31) hx hb dX5_isSign_27 (by decide) ?_
              refine W.widen (k := 0) (n := 0) (Nat.le_of_ble_eq_true rfl) (Nat.le_of_ble_eq_true rfl) ?_
              exact W.zret (v := 1) hx hb hr rfl (fun t ht9 hW9 => ⟨⟨1, (), rfl, (Or.inl ⟨rfl, (Or.inr (Or.inr (Or.inr (Or.inr (Or.inr ⟨c_6, c_7, c_14, c_15, c_17, c_18⟩)))))⟩), trivial⟩, hS.F ht9⟩) hS.2.2 dX5_isSign_31 hlocks
set_option maxHeartbeats 4000000 in
set_option maxRecDepth 100000 in
theorem k_X5_type (l : Launch) (D : va_G) (g : Nat → ClassId) (z0 sz : Nat) (a : Nat → Nat) (p0 : Int32) (hc_p0 : isC p0) : Met l yX5_type (.code yX5_type cX5_type 2 (some .int) :: TG) (rmk 0 0 0 0) (va_Pc [.ref (a 9), .int p0] (PP D g z0 sz [((a 9), f_memory a), ((a 59), .inl (g 2, 24, .inl (fun _ => 0)))])) (va_Qi (fun (r : Int32) (u : Unit) => (r = 1) ∧ True) (fun (u : Unit) (t : State) => va_P D vwCl [((a 9), .inr (11, [.ref (a 59), .ref (a 60), .int 1, .int 45, .int 0, .int 0, .int 0, .int 0, .int 0])), ((a 59), .inl (g 2, 24, .inl (upd (fun _ => 0) (0 : Int32).toNatClampNeg (vp_nar .char p0))))] t.heap ∧ va_D (va_A [((a 9), f_memory a), ((a 59), .inl (g 2, 24, .inl (fun _ => 0)))] sz) [((a 9), .inr (11, [.ref (a 59), .ref (a 60), .int 1, .int 45, .int 0, .int 0, .int 0, .int 0, .int 0])), ((a 59), .inl (g 2, 24, .inl (upd (fun _ => 0) (0 : Int32).toNatClampNeg (vp_nar .char p0))))]) (va_A [((a 9), f_memory a), ((a 59), .inl (g 2, 24, .inl (fun _ => 0)))] sz)) 0 0 (va_A [((a 9), f_memory a), ((a 59), .inl (g 2, 24, .inl (fun _ => 0)))] sz) := by
  refine met0 (cc := cX5_type) (n := 2) (by decide) (Nat.le_of_ble_eq_true rfl) ?_
  intro p e s m args below meth c hx hb hr hml hown ht hlocks hnm hP0 hD0 hK hZ hsz hz ls hl
  subst hsz
  have hA : ∀ q : Nat, s.heap.size ≤ q → va_A [((a 9), f_memory a), ((a 59), .inl (g 2, 24, .inl (fun _ => 0)))] s.heap.size q := Anw
  have hAz : ∀ q, va_A [((a 9), f_memory a), ((a 59), .inl (g 2, 24, .inl (fun _ => 0)))] s.heap.size q → z0 ≤ q := Awz hz hD0
  have hS : va_S (va_A [((a 9), f_memory a), ((a 59), .inl (g 2, 24, .inl (fun _ => 0)))] s.heap.size) s.heap s.heap [] := va_S.rf
  have hD : va_D (va_A [((a 9), f_memory a), ((a 59), .inl (g 2, 24, .inl (fun _ => 0)))] s.heap.size) [((a 9), f_memory a), ((a 59), .inl (g 2, 24, .inl (fun _ => 0)))] := hD0.self
  have hP : va_P D vwCl [((a 9), f_memory a), ((a 59), .inl (g 2, 24, .inl (fun _ => 0)))] s.heap := hP0
  have hl : lv_has ls 2 [(0, .ref (a 9)), (1, .int p0)] := hl
  refine lv_aload_n hx hb dX5_type_0 rfl (lv_at hl 0 rfl) ?_
  refine va_get (D := D) (ci := 11) (v := .ref (a 59)) (C := RX5) (T := TX5) (N := 9) hx hb ht in_X5 hown hK.1 hP 0 rfl rfl 0 (by decide) (ht _ w_251) (fun _ h9 => h9) rfl dX5_type_1 ?_
  refine lv_aload_n hx hb dX5_type_4 rfl (lv_at hl 0 rfl) ?_
  refine va_get (D := D) (ci := 11) (v := .int 0) (C := RX5) (T := TX5) (N := 9) hx hb ht in_X5 hown hK.1 hP 0 rfl rfl 2 (by decide) (ht _ w_215) (fun _ h9 => h9) rfl dX5_type_5 ?_
  refine lv_iload_n hx hb dX5_type_8 rfl (lv_at hl 1 rfl) ?_
  refine va_cast hx hb hK.1 hP hD hS 1 2 rfl rfl (by unfold vp_in; decide) dX5_type_9 (fun H locs hP hD hS => ?_)
  have hP : va_P D vwCl [((a 9), f_memory a), ((a 59), .inl (g 2, 24, .inl (upd (fun _ => 0) (0 : Int32).toNatClampNeg (vp_nar .char p0))))] H := hP
  have hD : va_D (va_A [((a 9), f_memory a), ((a 59), .inl (g 2, 24, .inl (fun _ => 0)))] s.heap.size) [((a 9), f_memory a), ((a 59), .inl (g 2, 24, .inl (upd (fun _ => 0) (0 : Int32).toNatClampNeg (vp_nar .char p0))))] := hD
  refine lv_aload_n hx hb dX5_type_10 rfl (lv_at hl 0 rfl) ?_
  refine lv_dup hx hb dX5_type_11 rfl ?_
  refine va_get (D := D) (ci := 11) (v := .int 0) (C := RX5) (T := TX5) (N := 9) hx hb ht in_X5 hown hK.1 hP 0 rfl rfl 2 (by decide) (ht _ w_215) (fun _ h9 => h9) rfl dX5_type_12 ?_
  refine lv_iconst (v := 1) hx hb dX5_type_15 (by decide) ?_
  refine lv_iadd hx hb dX5_type_16 ?_
  refine r_topi (v := 1) (by decide) ?_
  refine va_put (D := D) (ci := 11) (v := .int 1) (ty := .int) (C := RX5) (T := TX5) (N := 9) hx hb ht in_X5 tyX5 tyX5_ok nmX5 hown hK.1 hP hD hS 0 rfl rfl 2 (by decide) (ht _ w_215) (fun _ h9 => h9) rfl (by decide +kernel) rfl rfl (Nat.le_of_ble_eq_true rfl) dX5_type_17 (fun H locs hP hD hS => ?_)
  have hP : va_P D vwCl [((a 9), .inr (11, [.ref (a 59), .ref (a 60), .int 1, .int 45, .int 0, .int 0, .int 0, .int 0, .int 0])), ((a 59), .inl (g 2, 24, .inl (upd (fun _ => 0) (0 : Int32).toNatClampNeg (vp_nar .char p0))))] H := hP
  have hD : va_D (va_A [((a 9), f_memory a), ((a 59), .inl (g 2, 24, .inl (fun _ => 0)))] s.heap.size) [((a 9), .inr (11, [.ref (a 59), .ref (a 60), .int 1, .int 45, .int 0, .int 0, .int 0, .int 0, .int 0])), ((a 59), .inl (g 2, 24, .inl (upd (fun _ => 0) (0 : Int32).toNatClampNeg (vp_nar .char p0))))] := hD
  refine lv_aload_n hx hb dX5_type_20 rfl (lv_at hl 0 rfl) ?_
  refine va_get (D := D) (ci := 11) (v := .int 1) (C := RX5) (T := TX5) (N := 9) hx hb ht in_X5 hown hK.1 hP 0 rfl rfl 2 (by decide) (ht _ w_215) (fun _ h9 => h9) rfl dX5_type_21 ?_
  have hP9 := hP.sub (ws' := [((a 9), .inr (11, [.ref (a 59), .ref (a 60), .int 1, .int 45, .int 0, .int 0, .int 0, .int 0, .int 0])), ((a 59), .inl (g 2, 24, .inl (upd (fun _ => 0) (0 : Int32).toNatClampNeg (vp_nar .char p0))))]) [0, 1] rfl
  have hD9 := hD.sub (ws' := [((a 9), .inr (11, [.ref (a 59), .ref (a 60), .int 1, .int 45, .int 0, .int 0, .int 0, .int 0, .int 0])), ((a 59), .inl (g 2, 24, .inl (upd (fun _ => 0) (0 : Int32).toNatClampNeg (vp_nar .char p0))))]) [0, 1] (by decide) rfl
  refine W.widen (k := 0) (n := 0) (Nat.le_of_ble_eq_true rfl) (Nat.le_of_ble_eq_true rfl) ?_
  exact W.iret (v := 1) hx hb hr (fun t ht9 hW9 => ⟨⟨1, (), rfl, ⟨rfl, trivial⟩, ⟨(by rw [ht9]; exact hP9), hD9⟩⟩, hS.F ht9⟩) hS.2.2 dX5_type_24 hlocks
set_option maxHeartbeats 4000000 in
set_option maxRecDepth 100000 in
theorem k_X11_march (l : Launch) (hfl : l.stackTraces = false) (D : va_G) (g : Nat → ClassId) (z0 sz : Nat) (a : Nat → Nat) (p0 : Int32) (hc_p0 : isC p0) : vx_Met l yX11_march (.code yX11_march cX11_march 2 (some .int) :: TG) (rmk 6 1 6 81) (va_Pc [.ref (a 0), .int p0] (PP D g z0 sz [((a 0), f_x a), ((a 9), f_memory a), ((a 59), .inl (g 2, 24, .inl (fun _ => 0)))])) (va_Qi (fun (r : Int32) (u : Unit) => (r = 1) ∧ ((p0 = 94) ∨ ((¬ p0 = 94) ∧ (p0 = 118)) ∨ ((¬ p0 = 94) ∧ (¬ p0 = 118) ∧ (p0 = 48)) ∨ ((¬ p0 = 94) ∧ (¬ p0 = 118) ∧ (¬ p0 = 48) ∧ (p0 = 49)) ∨ ((¬ p0 = 94) ∧ (¬ p0 = 118) ∧ (¬ p0 = 48) ∧ (¬ p0 = 49) ∧ (p0 = 122)) ∨ ((¬ p0 = 94) ∧ (¬ p0 = 118) ∧ (¬ p0 = 48) ∧ (¬ p0 = 49) ∧ (¬ p0 = 122) ∧ (p0 = 111)))) (fun (u : Unit) (t : State) => va_P D vwCl [] t.heap ∧ va_D (va_A [((a 0), f_x a), ((a 9), f_memory a), ((a 59), .inl (g 2, 24, .inl (fun _ => 0)))] sz) []) (va_A [((a 0), f_x a), ((a 9), f_memory a), ((a 59), .inl (g 2, 24, .inl (fun _ => 0)))] sz)) (vx_X (fun _ : Unit => True) (fun E _ _ => (E = "java/lang/IllegalArgumentException" ∧ ((¬ p0 = 94) ∧ (¬ p0 = 118) ∧ (¬ p0 = 48) ∧ (¬ p0 = 49) ∧ (¬ p0 = 122) ∧ (¬ p0 = 111)))) (va_A [((a 0), f_x a), ((a 9), f_memory a), ((a 59), .inl (g 2, 24, .inl (fun _ => 0)))] sz)) 1 6 (va_A [((a 0), f_x a), ((a 9), f_memory a), ((a 59), .inl (g 2, 24, .inl (fun _ => 0)))] sz) := by
  refine vxm0 (cc := cX11_march) (n := 2) (by decide) (Nat.le_of_ble_eq_true rfl) ?_
  intro p e s m args below meth c hx hb hr hml htab hown ht hlocks hnm hP0 hD0 hK hZ hsz hz ls hl
  subst hsz
  have hA : ∀ q : Nat, s.heap.size ≤ q → va_A [((a 0), f_x a), ((a 9), f_memory a), ((a 59), .inl (g 2, 24, .inl (fun _ => 0)))] s.heap.size q := Anw
  have hAz : ∀ q, va_A [((a 0), f_x a), ((a 9), f_memory a), ((a 59), .inl (g 2, 24, .inl (fun _ => 0)))] s.heap.size q → z0 ≤ q := Awz hz hD0
  have hS : va_S (va_A [((a 0), f_x a), ((a 9), f_memory a), ((a 59), .inl (g 2, 24, .inl (fun _ => 0)))] s.heap.size) s.heap s.heap [] := va_S.rf
  have hD : va_D (va_A [((a 0), f_x a), ((a 9), f_memory a), ((a 59), .inl (g 2, 24, .inl (fun _ => 0)))] s.heap.size) [((a 0), f_x a), ((a 9), f_memory a), ((a 59), .inl (g 2, 24, .inl (fun _ => 0)))] := hD0.self
  have hP : va_P D vwCl [((a 0), f_x a), ((a 9), f_memory a), ((a 59), .inl (g 2, 24, .inl (fun _ => 0)))] s.heap := hP0
  have hl : lv_has ls 2 [(0, .ref (a 0)), (1, .int p0)] := hl
  refine lv_iload_n hx hb dX11_march_0 rfl (lv_at hl 1 rfl) ?_
  have hPc : va_P D vwCl [] _ := hP.sub (ws' := []) [] rfl
  have hDc : va_D (fun q => z0 ≤ q) [] := (hD.to hAz).pick (ws' := []) [] (by decide) rfl
  have hFc := AnA (ws := [((a 0), f_x a), ((a 9), f_memory a), ((a 59), .inl (g 2, 24, .inl (fun _ => 0)))]) hS.1
  refine va_calli (va_runS (As := [.int p0]) (rest := []) ⟨hx, hb, hml, hown, ht⟩ (k_X5_isSign l D g z0 _ a p0 hc_p0) (va_cwS 1 ht (gS w_248 w_250 w_220 w_249) rfl rfl rfl (by decide +kernel) (le2 rfl rfl)) ⟨PP.blind, PP.mk' hK hZ hz hAz hS hPc hDc⟩ rfl rfl hl.1 rfl (lv_room (Nat.le_of_ble_eq_true rfl)) dX11_march_1 (le2 rfl rfl)) hS (fun q _ h => hFc q h) hFc (fun r u t H locs ht1 hvm hw hB hz1 hk1 hS => ?_)
  rcases hw with hw | hw
  · obtain ⟨rfl, hw⟩ := hw
    rcases hw with hw | hw | hw | hw | hw | hw
    · have c_1 := hw
      have hP := ro1 hP hk1
      refine lv_if_ne (tgt := 15) hx hb dX11_march_4 (by decide) (fun c_2 => ?_) (fun c_2 => ?_)
      · refine lv_aload_n hx hb dX11_march_15 rfl (lv_at hl 0 rfl) ?_
        refine va_get (D := D) (ci := 17) (v := .ref (a 9)) (C := RX11) (T := TX11) (N := 11) hx hb ht in_X11 hown hK.1 hP 0 rfl rfl 8 (by decide) (ht _ w_166) (fun _ h9 => h9) rfl dX11_march_16 ?_
        refine va_get (D := D) (ci := 11) (v := .int 0) (C := RX5) (T := TX5) (N := 9) hx hb ht in_X5 hown hK.1 hP 1 rfl rfl 2 (by decide) (ht _ w_167) (fun _ h9 => h9) rfl dX11_march_19 ?_
        refine lv_bipush (v := 24) hx hb dX11_march_22 (by decide) ?_
        refine lv_icmp_lt (tgt := 35) hx hb dX11_march_24 (by decide) (fun c_3 => ?_) (fun c_3 => ?_)
        · refine lv_aload_n hx hb dX11_march_35 rfl (lv_at hl 0 rfl) ?_
          refine va_get (D := D) (ci := 17) (v := .ref (a 9)) (C := RX11) (T := TX11) (N := 11) hx hb ht in_X11 hown hK.1 hP 0 rfl rfl 8 (by decide) (ht _ w_166) (fun _ h9 => h9) rfl dX11_march_36 ?_
          refine lv_iload_n hx hb dX11_march_39 rfl (lv_at hl 1 rfl) ?_
          have hPc : va_P D vwCl [((a 9), f_memory a), ((a 59), .inl (g 2, 24, .inl (fun _ => 0)))] _ := hP.sub (ws' := [((a 9), f_memory a), ((a 59), .inl (g 2, 24, .inl (fun _ => 0)))]) [1, 2] rfl
          have hDc : va_D (fun q => z0 ≤ q) [((a 9), f_memory a), ((a 59), .inl (g 2, 24, .inl (fun _ => 0)))] := (hD.to hAz).pick (ws' := [((a 9), f_memory a), ((a 59), .inl (g 2, 24, .inl (fun _ => 0)))]) [1, 2] (by decide) rfl
          have hFc := va_free (wc := [((a 9), f_memory a), ((a 59), .inl (g 2, 24, .inl (fun _ => 0)))]) hD hS hA [1, 2] rfl
          refine va_calli (va_runV (As := [.int p0]) (rest := []) ⟨hx, hb, hml, hown, ht⟩ (k_X5_type l D g z0 _ a p0 hc_p0) (cwV 1 ht (gV w_252 w_254 w_255 w_220 w_253) rfl rfl rfl (by decide +kernel) (le2 rfl rfl)) ⟨PP.blind, va_recv hK.1 hP (ci := 11) (q0 := 1) rfl rfl, PP.mk' hK hZ hz hAz hS hPc hDc⟩ rfl rfl hl.1 rfl (lv_room (Nat.le_of_ble_eq_true rfl)) dX11_march_40 (le2 rfl rfl)) hS (fun q _ h => hFc q h) hFc (fun r u t H locs ht1 hvm hw hB hz1 hk1 hS => ?_)
          obtain ⟨rfl, hw⟩ := hw
          obtain ⟨hP1, hD1⟩ := hB
          rw [ht1] at hP1
          obtain ⟨hP, hD⟩ := va_join (wr := [((a 0), f_x a)]) (w1 := [((a 9), .inr (11, [.ref (a 59), .ref (a 60), .int 1, .int 45, .int 0, .int 0, .int 0, .int 0, .int 0])), ((a 59), .inl (g 2, 24, .inl (upd (fun _ => 0) (0 : Int32).toNatClampNeg (vp_nar .char p0))))]) hP hD [1, 2] [0] rfl rfl (by decide) (by decide) hk1 hFc hP1 hD1
          have hP : va_P D vwCl [((a 0), f_x a), ((a 9), .inr (11, [.ref (a 59), .ref (a 60), .int 1, .int 45, .int 0, .int 0, .int 0, .int 0, .int 0])), ((a 59), .inl (g 2, 24, .inl (upd (fun _ => 0) (0 : Int32).toNatClampNeg (vp_nar .char p0))))] H := hP
          have hD : va_D (va_A [((a 0), f_x a), ((a 9), f_memory a), ((a 59), .inl (g 2, 24, .inl (fun _ => 0)))] s.heap.size) [((a 0), f_x a), ((a 9), .inr (11, [.ref (a 59), .ref (a 60), .int 1, .int 45, .int 0, .int 0, .int 0, .int 0, .int 0])), ((a 59), .inl (g 2, 24, .inl (upd (fun _ => 0) (0 : Int32).toNatClampNeg (vp_nar .char p0))))] := hD
          have hP9 := hP.sub (ws' := []) [] rfl
          have hD9 := hD.sub (ws' := []) [] (by decide) rfl
          refine vx_ret (W.widen (k := 1) (n := 6) (Nat.le_of_ble_eq_true rfl) (Nat.le_of_ble_eq_true rfl) ?_)
          exact W.iret (v := 1) hx hb hr (fun t ht9 hW9 => ⟨⟨1, (), rfl, ⟨rfl, (Or.inl c_1)⟩, ⟨(by rw [ht9]; exact hP9), hD9⟩⟩, hS.F ht9⟩) hS.2.2 dX11_march_43 hlocks
        · exact absurd c_3 (by decide)
      · exact absurd c_2 (by decide)
    · obtain ⟨c_4, c_5⟩ := hw
      have hP := ro1 hP hk1
      refine lv_if_ne (tgt := 15) hx hb dX11_march_4 (by decide) (fun c_6 => ?_) (fun c_6 => ?_)
      · refine lv_aload_n hx hb dX11_march_15 rfl (lv_at hl 0 rfl) ?_
        refine va_get (D := D) (ci := 17) (v := .ref (a 9)) (C := RX11) (T := TX11) (N := 11) hx hb ht in_X11 hown hK.1 hP 0 rfl rfl 8 (by decide) (ht _ w_166) (fun _ h9 => h9) rfl dX11_march_16 ?_
        refine va_get (D := D) (ci := 11) (v := .int 0) (C := RX5) (T := TX5) (N := 9) hx hb ht in_X5 hown hK.1 hP 1 rfl rfl 2 (by decide) (ht _ w_167) (fun _ h9 => h9) rfl dX11_march_19 ?_
        refine lv_bipush (v := 24) hx hb dX11_march_22 (by decide) ?_
        refine lv_icmp_lt (tgt := 35) hx hb dX11_march_24 (by decide) (fun c_7 => ?_) (fun c_7 => ?_)
        · refine lv_aload_n hx hb dX11_march_35 rfl (lv_at hl 0 rfl) ?_
          refine va_get (D := D) (ci := 17) (v := .ref (a 9)) (C := RX11) (T := TX11) (N := 11) hx hb ht in_X11 hown hK.1 hP 0 rfl rfl 8 (by decide) (ht _ w_166) (fun _ h9 => h9) rfl dX11_march_36 ?_
          refine lv_iload_n hx hb dX11_march_39 rfl (lv_at hl 1 rfl) ?_
          have hPc : va_P D vwCl [((a 9), f_memory a), ((a 59), .inl (g 2, 24, .inl (fun _ => 0)))] _ := hP.sub (ws' := [((a 9), f_memory a), ((a 59), .inl (g 2, 24, .inl (fun _ => 0)))]) [1, 2] rfl
          have hDc : va_D (fun q => z0 ≤ q) [((a 9), f_memory a), ((a 59), .inl (g 2, 24, .inl (fun _ => 0)))] := (hD.to hAz).pick (ws' := [((a 9), f_memory a), ((a 59), .inl (g 2, 24, .inl (fun _ => 0)))]) [1, 2] (by decide) rfl
          have hFc := va_free (wc := [((a 9), f_memory a), ((a 59), .inl (g 2, 24, .inl (fun _ => 0)))]) hD hS hA [1, 2] rfl
          refine va_calli (va_runV (As := [.int p0]) (rest := []) ⟨hx, hb, hml, hown, ht⟩ (k_X5_type l D g z0 _ a p0 hc_p0) (cwV 1 ht (gV w_252 w_254 w_255 w_220 w_253) rfl rfl rfl (by decide +kernel) (le2 rfl rfl)) ⟨PP.blind, va_recv hK.1 hP (ci := 11) (q0 := 1) rfl rfl, PP.mk' hK hZ hz hAz hS hPc hDc⟩ rfl rfl hl.1 rfl (lv_room (Nat.le_of_ble_eq_true rfl)) dX11_march_40 (le2 rfl rfl)) hS (fun q _ h => hFc q h) hFc (fun r u t H locs ht1 hvm hw hB hz1 hk1 hS => ?_)
          obtain ⟨rfl, hw⟩ := hw
          obtain ⟨hP1, hD1⟩ := hB
          rw [ht1] at hP1
          obtain ⟨hP, hD⟩ := va_join (wr := [((a 0), f_x a)]) (w1 := [((a 9), .inr (11, [.ref (a 59), .ref (a 60), .int 1, .int 45, .int 0, .int 0, .int 0, .int 0, .int 0])), ((a 59), .inl (g 2, 24, .inl (upd (fun _ => 0) (0 : Int32).toNatClampNeg (vp_nar .char p0))))]) hP hD [1, 2] [0] rfl rfl (by decide) (by decide) hk1 hFc hP1 hD1
          have hP : va_P D vwCl [((a 0), f_x a), ((a 9), .inr (11, [.ref (a 59), .ref (a 60), .int 1, .int 45, .int 0, .int 0, .int 0, .int 0, .int 0])), ((a 59), .inl (g 2, 24, .inl (upd (fun _ => 0) (0 : Int32).toNatClampNeg (vp_nar .char p0))))] H := hP
          have hD : va_D (va_A [((a 0), f_x a), ((a 9), f_memory a), ((a 59), .inl (g 2, 24, .inl (fun _ => 0)))] s.heap.size) [((a 0), f_x a), ((a 9), .inr (11, [.ref (a 59), .ref (a 60), .int 1, .int 45, .int 0, .int 0, .int 0, .int 0, .int 0])), ((a 59), .inl (g 2, 24, .inl (upd (fun _ => 0) (0 : Int32).toNatClampNeg (vp_nar .char p0))))] := hD
          have hP9 := hP.sub (ws' := []) [] rfl
          have hD9 := hD.sub (ws' := []) [] (by decide) rfl
          refine vx_ret (W.widen (k := 1) (n := 6) (Nat.le_of_ble_eq_true rfl) (Nat.le_of_ble_eq_true rfl) ?_)
          exact W.iret (v := 1) hx hb hr (fun t ht9 hW9 => ⟨⟨1, (), rfl, ⟨rfl, (Or.inr (Or.inl ⟨c_4, c_5⟩))⟩, ⟨(by rw [ht9]; exact hP9), hD9⟩⟩, hS.F ht9⟩) hS.2.2 dX11_march_43 hlocks
        · exact absurd c_7 (by decide)
      · exact absurd c_6 (by decide)
    · obtain ⟨c_8, c_9, c_10⟩ := hw
      have hP := ro1 hP hk1
      refine lv_if_ne (tgt := 15) hx hb dX11_march_4 (by decide) (fun c_11 => ?_) (fun c_11 => ?_)
      · refine lv_aload_n hx hb dX11_march_15 rfl (lv_at hl 0 rfl) ?_
        refine va_get (D := D) (ci := 17) (v := .ref (a 9)) (C := RX11) (T := TX11) (N := 11) hx hb ht in_X11 hown hK.1 hP 0 rfl rfl 8 (by decide) (ht _ w_166) (fun _ h9 => h9) rfl dX11_march_16 ?_
        refine va_get (D := D) (ci := 11) (v := .int 0) (C := RX5) (T := TX5) (N := 9) hx hb ht in_X5 hown hK.1 hP 1 rfl rfl 2 (by decide) (ht _ w_167) (fun _ h9 => h9) rfl dX11_march_19 ?_
        refine lv_bipush (v := 24) hx hb dX11_march_22 (by decide) ?_
        refine lv_icmp_lt (tgt := 35) hx hb dX11_march_24 (by decide) (fun c_12 => ?_) (fun c_12 => ?_)
        · refine lv_aload_n hx hb dX11_march_35 rfl (lv_at hl 0 rfl) ?_
          refine va_get (D := D) (ci := 17) (v := .ref (a 9)) (C := RX11) (T := TX11) (N := 11) hx hb ht in_X11 hown hK.1 hP 0 rfl rfl 8 (by decide) (ht _ w_166) (fun _ h9 => h9) rfl dX11_march_36 ?_
          refine lv_iload_n hx hb dX11_march_39 rfl (lv_at hl 1 rfl) ?_
          have hPc : va_P D vwCl [((a 9), f_memory a), ((a 59), .inl (g 2, 24, .inl (fun _ => 0)))] _ := hP.sub (ws' := [((a 9), f_memory a), ((a 59), .inl (g 2, 24, .inl (fun _ => 0)))]) [1, 2] rfl
          have hDc : va_D (fun q => z0 ≤ q) [((a 9), f_memory a), ((a 59), .inl (g 2, 24, .inl (fun _ => 0)))] := (hD.to hAz).pick (ws' := [((a 9), f_memory a), ((a 59), .inl (g 2, 24, .inl (fun _ => 0)))]) [1, 2] (by decide) rfl
          have hFc := va_free (wc := [((a 9), f_memory a), ((a 59), .inl (g 2, 24, .inl (fun _ => 0)))]) hD hS hA [1, 2] rfl
          refine va_calli (va_runV (As := [.int p0]) (rest := []) ⟨hx, hb, hml, hown, ht⟩ (k_X5_type l D g z0 _ a p0 hc_p0) (cwV 1 ht (gV w_252 w_254 w_255 w_220 w_253) rfl rfl rfl (by decide +kernel) (le2 rfl rfl)) ⟨PP.blind, va_recv hK.1 hP (ci := 11) (q0 := 1) rfl rfl, PP.mk' hK hZ hz hAz hS hPc hDc⟩ rfl rfl hl.1 rfl (lv_room (Nat.le_of_ble_eq_true rfl)) dX11_march_40 (le2 rfl rfl)) hS (fun q _ h => hFc q h) hFc (fun r u t H locs ht1 hvm hw hB hz1 hk1 hS => ?_)
          obtain ⟨rfl, hw⟩ := hw
          obtain ⟨hP1, hD1⟩ := hB
          rw [ht1] at hP1
          obtain ⟨hP, hD⟩ := va_join (wr := [((a 0), f_x a)]) (w1 := [((a 9), .inr (11, [.ref (a 59), .ref (a 60), .int 1, .int 45, .int 0, .int 0, .int 0, .int 0, .int 0])), ((a 59), .inl (g 2, 24, .inl (upd (fun _ => 0) (0 : Int32).toNatClampNeg (vp_nar .char p0))))]) hP hD [1, 2] [0] rfl rfl (by decide) (by decide) hk1 hFc hP1 hD1
          have hP : va_P D vwCl [((a 0), f_x a), ((a 9), .inr (11, [.ref (a 59), .ref (a 60), .int 1, .int 45, .int 0, .int 0, .int 0, .int 0, .int 0])), ((a 59), .inl (g 2, 24, .inl (upd (fun _ => 0) (0 : Int32).toNatClampNeg (vp_nar .char p0))))] H := hP
          have hD : va_D (va_A [((a 0), f_x a), ((a 9), f_memory a), ((a 59), .inl (g 2, 24, .inl (fun _ => 0)))] s.heap.size) [((a 0), f_x a), ((a 9), .inr (11, [.ref (a 59), .ref (a 60), .int 1, .int 45, .int 0, .int 0, .int 0, .int 0, .int 0])), ((a 59), .inl (g 2, 24, .inl (upd (fun _ => 0) (0 : Int32).toNatClampNeg (vp_nar .char p0))))] := hD
          have hP9 := hP.sub (ws' := []) [] rfl
          have hD9 := hD.sub (ws' := []) [] (by decide) rfl
          refine vx_ret (W.widen (k := 1) (n := 6) (Nat.le_of_ble_eq_true rfl) (Nat.le_of_ble_eq_true rfl) ?_)
          exact W.iret (v := 1) hx hb hr (fun t ht9 hW9 => ⟨⟨1, (), rfl, ⟨rfl, (Or.inr (Or.inr (Or.inl ⟨c_8, c_9, c_10⟩)))⟩, ⟨(by rw [ht9]; exact hP9), hD9⟩⟩, hS.F ht9⟩) hS.2.2 dX11_march_43 hlocks
        · exact absurd c_12 (by decide)
      · exact absurd c_11 (by decide)
    · obtain ⟨c_13, c_14, c_15, c_16⟩ := hw
      have hP := ro1 hP hk1
      refine lv_if_ne (tgt := 15) hx hb dX11_march_4 (by decide) (fun c_17 => ?_) (fun c_17 => ?_)
      · refine lv_aload_n hx hb dX11_march_15 rfl (lv_at hl 0 rfl) ?_
        refine va_get (D := D) (ci := 17) (v := .ref (a 9)) (C := RX11) (T := TX11) (N := 11) hx hb ht in_X11 hown hK.1 hP 0 rfl rfl 8 (by decide) (ht _ w_166) (fun _ h9 => h9) rfl dX11_march_16 ?_
        refine va_get (D := D) (ci := 11) (v := .int 0) (C := RX5) (T := TX5) (N := 9) hx hb ht in_X5 hown hK.1 hP 1 rfl rfl 2 (by decide) (ht _ w_167) (fun _ h9 => h9) rfl dX11_march_19 ?_
        refine lv_bipush (v := 24) hx hb dX11_march_22 (by decide) ?_
        refine lv_icmp_lt (tgt := 35) hx hb dX11_march_24 (by decide) (fun c_18 => ?_) (fun c_18 => ?_)
        · refine lv_aload_n hx hb dX11_march_35 rfl (lv_at hl 0 rfl) ?_
          refine va_get (D := D) (ci := 17) (v := .ref (a 9)) (C := RX11) (T := TX11) (N := 11) hx hb ht in_X11 hown hK.1 hP 0 rfl rfl 8 (by decide) (ht _ w_166) (fun _ h9 => h9) rfl dX11_march_36 ?_
          refine lv_iload_n hx hb dX11_march_39 rfl (lv_at hl 1 rfl) ?_
          have hPc : va_P D vwCl [((a 9), f_memory a), ((a 59), .inl (g 2, 24, .inl (fun _ => 0)))] _ := hP.sub (ws' := [((a 9), f_memory a), ((a 59), .inl (g 2, 24, .inl (fun _ => 0)))]) [1, 2] rfl
          have hDc : va_D (fun q => z0 ≤ q) [((a 9), f_memory a), ((a 59), .inl (g 2, 24, .inl (fun _ => 0)))] := (hD.to hAz).pick (ws' := [((a 9), f_memory a), ((a 59), .inl (g 2, 24, .inl (fun _ => 0)))]) [1, 2] (by decide) rfl
          have hFc := va_free (wc := [((a 9), f_memory a), ((a 59), .inl (g 2, 24, .inl (fun _ => 0)))]) hD hS hA [1, 2] rfl
          refine va_calli (va_runV (As := [.int p0]) (rest := []) ⟨hx, hb, hml, hown, ht⟩ (k_X5_type l D g z0 _ a p0 hc_p0) (cwV 1 ht (gV w_252 w_254 w_255 w_220 w_253) rfl rfl rfl (by decide +kernel) (le2 rfl rfl)) ⟨PP.blind, va_recv hK.1 hP (ci := 11) (q0 := 1) rfl rfl, PP.mk' hK hZ hz hAz hS hPc hDc⟩ rfl rfl hl.1 rfl (lv_room (Nat.le_of_ble_eq_true rfl)) dX11_march_40 (le2 rfl rfl)) hS (fun q _ h => hFc q h) hFc (fun r u t H locs ht1 hvm hw hB hz1 hk1 hS => ?_)
          obtain ⟨rfl, hw⟩ := hw
          obtain ⟨hP1, hD1⟩ := hB
          rw [ht1] at hP1
          obtain ⟨hP, hD⟩ := va_join (wr := [((a 0), f_x a)]) (w1 := [((a 9), .inr (11, [.ref (a 59), .ref (a 60), .int 1, .int 45, .int 0, .int 0, .int 0, .int 0, .int 0])), ((a 59), .inl (g 2, 24, .inl (upd (fun _ => 0) (0 : Int32).toNatClampNeg (vp_nar .char p0))))]) hP hD [1, 2] [0] rfl rfl (by decide) (by decide) hk1 hFc hP1 hD1
          have hP : va_P D vwCl [((a 0), f_x a), ((a 9), .inr (11, [.ref (a 59), .ref (a 60), .int 1, .int 45, .int 0, .int 0, .int 0, .int 0, .int 0])), ((a 59), .inl (g 2, 24, .inl (upd (fun _ => 0) (0 : Int32).toNatClampNeg (vp_nar .char p0))))] H := hP
          have hD : va_D (va_A [((a 0), f_x a), ((a 9), f_memory a), ((a 59), .inl (g 2, 24, .inl (fun _ => 0)))] s.heap.size) [((a 0), f_x a), ((a 9), .inr (11, [.ref (a 59), .ref (a 60), .int 1, .int 45, .int 0, .int 0, .int 0, .int 0, .int 0])), ((a 59), .inl (g 2, 24, .inl (upd (fun _ => 0) (0 : Int32).toNatClampNeg (vp_nar .char p0))))] := hD
          have hP9 := hP.sub (ws' := []) [] rfl
          have hD9 := hD.sub (ws' := []) [] (by decide) rfl
          refine vx_ret (W.widen (k := 1) (n := 6) (Nat.le_of_ble_eq_true rfl) (Nat.le_of_ble_eq_true rfl) ?_)
          exact W.iret (v := 1) hx hb hr (fun t ht9 hW9 => ⟨⟨1, (), rfl, ⟨rfl, (Or.inr (Or.inr (Or.inr (Or.inl ⟨c_13, c_14, c_15, c_16⟩))))⟩, ⟨(by rw [ht9]; exact hP9), hD9⟩⟩, hS.F ht9⟩) hS.2.2 dX11_march_43 hlocks
        · exact absurd c_18 (by decide)
      · exact absurd c_17 (by decide)
    · obtain ⟨c_19, c_20, c_21, c_22, c_23⟩ := hw
      have hP := ro1 hP hk1
      refine lv_if_ne (tgt := 15) hx hb dX11_march_4 (by decide) (fun c_24 => ?_) (fun c_24 => ?_)
      · refine lv_aload_n hx hb dX11_march_15 rfl (lv_at hl 0 rfl) ?_
        refine va_get (D := D) (ci := 17) (v := .ref (a 9)) (C := RX11) (T := TX11) (N := 11) hx hb ht in_X11 hown hK.1 hP 0 rfl rfl 8 (by decide) (ht _ w_166) (fun _ h9 => h9) rfl dX11_march_16 ?_
        refine va_get (D := D) (ci := 11) (v := .int 0) (C := RX5) (T := TX5) (N := 9) hx hb ht in_X5 hown hK.1 hP 1 rfl rfl 2 (by decide) (ht _ w_167) (fun _ h9 => h9) rfl dX11_march_19 ?_
        refine lv_bipush (v := 24) hx hb dX11_march_22 (by decide) ?_
        refine lv_icmp_lt (tgt := 35) hx hb dX11_march_24 (by decide) (fun c_25 => ?_) (fun c_25 => ?_)
        · refine lv_aload_n hx hb dX11_march_35 rfl (lv_at hl 0 rfl) ?_
          refine va_get (D := D) (ci := 17) (v := .ref (a 9)) (C := RX11) (T := TX11) (N := 11) hx hb ht in_X11 hown hK.1 hP 0 rfl rfl 8 (by decide) (ht _ w_166) (fun _ h9 => h9) rfl dX11_march_36 ?_
          refine lv_iload_n hx hb dX11_march_39 rfl (lv_at hl 1 rfl) ?_
          have hPc : va_P D vwCl [((a 9), f_memory a), ((a 59), .inl (g 2, 24, .inl (fun _ => 0)))] _ := hP.sub (ws' := [((a 9), f_memory a), ((a 59), .inl (g 2, 24, .inl (fun _ => 0)))]) [1, 2] rfl
          have hDc : va_D (fun q => z0 ≤ q) [((a 9), f_memory a), ((a 59), .inl (g 2, 24, .inl (fun _ => 0)))] := (hD.to hAz).pick (ws' := [((a 9), f_memory a), ((a 59), .inl (g 2, 24, .inl (fun _ => 0)))]) [1, 2] (by decide) rfl
          have hFc := va_free (wc := [((a 9), f_memory a), ((a 59), .inl (g 2, 24, .inl (fun _ => 0)))]) hD hS hA [1, 2] rfl
          refine va_calli (va_runV (As := [.int p0]) (rest := []) ⟨hx, hb, hml, hown, ht⟩ (k_X5_type l D g z0 _ a p0 hc_p0) (cwV 1 ht (gV w_252 w_254 w_255 w_220 w_253) rfl rfl rfl (by decide +kernel) (le2 rfl rfl)) ⟨PP.blind, va_recv hK.1 hP (ci := 11) (q0 := 1) rfl rfl, PP.mk' hK hZ hz hAz hS hPc hDc⟩ rfl rfl hl.1 rfl (lv_room (Nat.le_of_ble_eq_true rfl)) dX11_march_40 (le2 rfl rfl)) hS (fun q _ h => hFc q h) hFc (fun r u t H locs ht1 hvm hw hB hz1 hk1 hS => ?_)
          obtain ⟨rfl, hw⟩ := hw
          obtain ⟨hP1, hD1⟩ := hB
          rw [ht1] at hP1
          obtain ⟨hP, hD⟩ := va_join (wr := [((a 0), f_x a)]) (w1 := [((a 9), .inr (11, [.ref (a 59), .ref (a 60), .int 1, .int 45, .int 0, .int 0, .int 0, .int 0, .int 0])), ((a 59), .inl (g 2, 24, .inl (upd (fun _ => 0) (0 : Int32).toNatClampNeg (vp_nar .char p0))))]) hP hD [1, 2] [0] rfl rfl (by decide) (by decide) hk1 hFc hP1 hD1
          have hP : va_P D vwCl [((a 0), f_x a), ((a 9), .inr (11, [.ref (a 59), .ref (a 60), .int 1, .int 45, .int 0, .int 0, .int 0, .int 0, .int 0])), ((a 59), .inl (g 2, 24, .inl (upd (fun _ => 0) (0 : Int32).toNatClampNeg (vp_nar .char p0))))] H := hP
          have hD : va_D (va_A [((a 0), f_x a), ((a 9), f_memory a), ((a 59), .inl (g 2, 24, .inl (fun _ => 0)))] s.heap.size) [((a 0), f_x a), ((a 9), .inr (11, [.ref (a 59), .ref (a 60), .int 1, .int 45, .int 0, .int 0, .int 0, .int 0, .int 0])), ((a 59), .inl (g 2, 24, .inl (upd (fun _ => 0) (0 : Int32).toNatClampNeg (vp_nar .char p0))))] := hD
          have hP9 := hP.sub (ws' := []) [] rfl
          have hD9 := hD.sub (ws' := []) [] (by decide) rfl
          refine vx_ret (W.widen (k := 1) (n := 6) (Nat.le_of_ble_eq_true rfl) (Nat.le_of_ble_eq_true rfl) ?_)
          exact W.iret (v := 1) hx hb hr (fun t ht9 hW9 => ⟨⟨1, (), rfl, ⟨rfl, (Or.inr (Or.inr (Or.inr (Or.inr (Or.inl ⟨c_19, c_20, c_21, c_22, c_23⟩)))))⟩, ⟨(by rw [ht9]; exact hP9), hD9⟩⟩, hS.F ht9⟩) hS.2.2 dX11_march_43 hlocks
        · exact absurd c_25 (by decide)
      · exact absurd c_24 (by decide)
    · obtain ⟨c_26, c_27, c_28, c_29, c_30, c_31⟩ := hw
      have hP := ro1 hP hk1
      refine lv_if_ne (tgt := 15) hx hb dX11_march_4 (by decide) (fun c_32 => ?_) (fun c_32 => ?_)
      · refine lv_aload_n hx hb dX11_march_15 rfl (lv_at hl 0 rfl) ?_
        refine va_get (D := D) (ci := 17) (v := .ref (a 9)) (C := RX11) (T := TX11) (N := 11) hx hb ht in_X11 hown hK.1 hP 0 rfl rfl 8 (by decide) (ht _ w_166) (fun _ h9 => h9) rfl dX11_march_16 ?_
        refine va_get (D := D) (ci := 11) (v := .int 0) (C := RX5) (T := TX5) (N := 9) hx hb ht in_X5 hown hK.1 hP 1 rfl rfl 2 (by decide) (ht _ w_167) (fun _ h9 => h9) rfl dX11_march_19 ?_
        refine lv_bipush (v := 24) hx hb dX11_march_22 (by decide) ?_
        refine lv_icmp_lt (tgt := 35) hx hb dX11_march_24 (by decide) (fun c_33 => ?_) (fun c_33 => ?_)
        · refine lv_aload_n hx hb dX11_march_35 rfl (lv_at hl 0 rfl) ?_
          refine va_get (D := D) (ci := 17) (v := .ref (a 9)) (C := RX11) (T := TX11) (N := 11) hx hb ht in_X11 hown hK.1 hP 0 rfl rfl 8 (by decide) (ht _ w_166) (fun _ h9 => h9) rfl dX11_march_36 ?_
          refine lv_iload_n hx hb dX11_march_39 rfl (lv_at hl 1 rfl) ?_
          have hPc : va_P D vwCl [((a 9), f_memory a), ((a 59), .inl (g 2, 24, .inl (fun _ => 0)))] _ := hP.sub (ws' := [((a 9), f_memory a), ((a 59), .inl (g 2, 24, .inl (fun _ => 0)))]) [1, 2] rfl
          have hDc : va_D (fun q => z0 ≤ q) [((a 9), f_memory a), ((a 59), .inl (g 2, 24, .inl (fun _ => 0)))] := (hD.to hAz).pick (ws' := [((a 9), f_memory a), ((a 59), .inl (g 2, 24, .inl (fun _ => 0)))]) [1, 2] (by decide) rfl
          have hFc := va_free (wc := [((a 9), f_memory a), ((a 59), .inl (g 2, 24, .inl (fun _ => 0)))]) hD hS hA [1, 2] rfl
          refine va_calli (va_runV (As := [.int p0]) (rest := []) ⟨hx, hb, hml, hown, ht⟩ (k_X5_type l D g z0 _ a p0 hc_p0) (cwV 1 ht (gV w_252 w_254 w_255 w_220 w_253) rfl rfl rfl (by decide +kernel) (le2 rfl rfl)) ⟨PP.blind, va_recv hK.1 hP (ci := 11) (q0 := 1) rfl rfl, PP.mk' hK hZ hz hAz hS hPc hDc⟩ rfl rfl hl.1 rfl (lv_room (Nat.le_of_ble_eq_true rfl)) dX11_march_40 (le2 rfl rfl)) hS (fun q _ h => hFc q h) hFc (fun r u t H locs ht1 hvm hw hB hz1 hk1 hS => ?_)
          obtain ⟨rfl, hw⟩ := hw
          obtain ⟨hP1, hD1⟩ := hB
          rw [ht1] at hP1
          obtain ⟨hP, hD⟩ := va_join (wr := [((a 0), f_x a)]) (w1 := [((a 9), .inr (11, [.ref (a 59), .ref (a 60), .int 1, .int 45, .int 0, .int 0, .int 0, .int 0, .int 0])), ((a 59), .inl (g 2, 24, .inl (upd (fun _ => 0) (0 : Int32).toNatClampNeg (vp_nar .char p0))))]) hP hD [1, 2] [0] rfl rfl (by decide) (by decide) hk1 hFc hP1 hD1
          have hP : va_P D vwCl [((a 0), f_x a), ((a 9), .inr (11, [.ref (a 59), .ref (a 60), .int 1, .int 45, .int 0, .int 0, .int 0, .int 0, .int 0])), ((a 59), .inl (g 2, 24, .inl (upd (fun _ => 0) (0 : Int32).toNatClampNeg (vp_nar .char p0))))] H := hP
          have hD : va_D (va_A [((a 0), f_x a), ((a 9), f_memory a), ((a 59), .inl (g 2, 24, .inl (fun _ => 0)))] s.heap.size) [((a 0), f_x a), ((a 9), .inr (11, [.ref (a 59), .ref (a 60), .int 1, .int 45, .int 0, .int 0, .int 0, .int 0, .int 0])), ((a 59), .inl (g 2, 24, .inl (upd (fun _ => 0) (0 : Int32).toNatClampNeg (vp_nar .char p0))))] := hD
          have hP9 := hP.sub (ws' := []) [] rfl
          have hD9 := hD.sub (ws' := []) [] (by decide) rfl
          refine vx_ret (W.widen (k := 1) (n := 6) (Nat.le_of_ble_eq_true rfl) (Nat.le_of_ble_eq_true rfl) ?_)
          exact W.iret (v := 1) hx hb hr (fun t ht9 hW9 => ⟨⟨1, (), rfl, ⟨rfl, (Or.inr (Or.inr (Or.inr (Or.inr (Or.inr ⟨c_26, c_27, c_28, c_29, c_30, c_31⟩)))))⟩, ⟨(by rw [ht9]; exact hP9), hD9⟩⟩, hS.F ht9⟩) hS.2.2 dX11_march_43 hlocks
        · exact absurd c_33 (by decide)
      · exact absurd c_32 (by decide)
  · obtain ⟨rfl, hw⟩ := hw
    obtain ⟨c_34, c_35, c_36, c_37, c_38, c_39⟩ := hw
    have hP := ro1 hP hk1
    refine lv_if_ne (tgt := 15) hx hb dX11_march_4 (by decide) (fun c_40 => ?_) (fun c_40 => ?_)
    · exact absurd c_40 (by decide)
    · exact thr0 hx hb hfl hown ht hK.2.2 hZ hAz hS hl hml htab hlocks (by decide +kernel) w_41 w_42 at_X11_116 dX11_march_7 dX11_march_10 dX11_march_11 dX11_march_14 rfl rfl rfl rfl (fun t _ hF => ⟨(), trivial, ⟨rfl, ⟨c_34, c_35, c_36, c_37, c_38, c_39⟩⟩, hF⟩) (fun _ h => h) rfl rfl
set_option maxHeartbeats 4000000 in
set_option maxRecDepth 100000 in
theorem k_X5_isKind (l : Launch) (D : va_G) (g : Nat → ClassId) (z0 sz : Nat) (a : Nat → Nat) (p0 : Int32) (hc_p0 : isC p0) : Met l yX5_isKind (.code yX5_isKind cX5_isKind 1 (some .boolean) :: TG) (rmk 0 0 0 0) (va_Pc [.int p0] (PP D g z0 sz [])) (va_Qi (fun (r : Int32) (u : Unit) => ((r = 1) ∧ ((p0 = 115) ∨ ((¬ p0 = 115) ∧ (p0 = 116)) ∨ ((¬ p0 = 115) ∧ (¬ p0 = 116) ∧ (p0 = 99)) ∨ ((¬ p0 = 115) ∧ (¬ p0 = 116) ∧ (¬ p0 = 99) ∧ (p0 = 105)) ∨ ((¬ p0 = 115) ∧ (¬ p0 = 116) ∧ (¬ p0 = 99) ∧ (¬ p0 = 105) ∧ (p0 = 97)))) ∨ ((r = 0) ∧ ((¬ p0 = 115) ∧ (¬ p0 = 116) ∧ (¬ p0 = 99) ∧ (¬ p0 = 105) ∧ (¬ p0 = 97)))) (fun (_ : Unit) (_ : State) => True) (va_A [] sz)) 0 0 (va_A [] sz) := by
  refine met0 (cc := cX5_isKind) (n := 1) (by decide) (Nat.le_of_ble_eq_true rfl) ?_
  intro p e s m args below meth c hx hb hr hml hown ht hlocks hnm hP0 hD0 hK hZ hsz hz ls hl
  subst hsz
  have hA : ∀ q : Nat, s.heap.size ≤ q → va_A [] s.heap.size q := Anw
  have hAz : ∀ q, va_A [] s.heap.size q → z0 ≤ q := A0z hz
  have hS : va_S (va_A [] s.heap.size) s.heap s.heap [] := va_S.rf
  have hl : lv_has ls 1 [(0, .int p0)] := hl
  refine lv_iload_n hx hb dX5_isKind_0 rfl (lv_at hl 0 rfl) ?_
  refine lv_bipush (v := 115) hx hb dX5_isKind_1 (by decide) ?_
  refine lv_icmp_eq (tgt := 30) hx hb dX5_isKind_3 (by decide) (fun c_1 => ?_) (fun c_1 => ?_)
  · refine lv_iconst (v := 1) hx hb dX5_isKind_30 (by decide) ?_
    refine lv_goto (tgt := 35) hx hb dX5_isKind_31 (by decide) ?_
    refine W.widen (k := 0) (n := 0) (Nat.le_of_ble_eq_true rfl) (Nat.le_of_ble_eq_true rfl) ?_
    exact W.zret (v := 1) hx hb hr rfl (fun t ht9 hW9 => ⟨⟨1, (), rfl, (Or.inl ⟨rfl, (Or.inl c_1)⟩), trivial⟩, hS.F ht9⟩) hS.2.2 dX5_isKind_35 hlocks
  · refine lv_iload_n hx hb dX5_isKind_6 rfl (lv_at hl 0 rfl) ?_
    refine lv_bipush (v := 116) hx hb dX5_isKind_7 (by decide) ?_
    refine lv_icmp_eq (tgt := 30) hx hb dX5_isKind_9 (by decide) (fun c_2 => ?_) (fun c_2 => ?_)
    · refine lv_iconst (v := 1) hx hb dX5_isKind_30 (by decide) ?_
      refine lv_goto (tgt := 35) hx hb dX5_isKind_31 (by decide) ?_
      refine W.widen (k := 0) (n := 0) (Nat.le_of_ble_eq_true rfl) (Nat.le_of_ble_eq_true rfl) ?_
      exact W.zret (v := 1) hx hb hr rfl (fun t ht9 hW9 => ⟨⟨1, (), rfl, (Or.inl ⟨rfl, (Or.inr (Or.inl ⟨c_1, c_2⟩))⟩), trivial⟩, hS.F ht9⟩) hS.2.2 dX5_isKind_35 hlocks
    · refine lv_iload_n hx hb dX5_isKind_12 rfl (lv_at hl 0 rfl) ?_
      refine lv_bipush (v := 99) hx hb dX5_isKind_13 (by decide) ?_
      refine lv_icmp_eq (tgt := 30) hx hb dX5_isKind_15 (by decide) (fun c_3 => ?_) (fun c_3 => ?_)
      · refine lv_iconst (v := 1) hx hb dX5_isKind_30 (by decide) ?_
        refine lv_goto (tgt := 35) hx hb dX5_isKind_31 (by decide) ?_
        refine W.widen (k := 0) (n := 0) (Nat.le_of_ble_eq_true rfl) (Nat.le_of_ble_eq_true rfl) ?_
        exact W.zret (v := 1) hx hb hr rfl (fun t ht9 hW9 => ⟨⟨1, (), rfl, (Or.inl ⟨rfl, (Or.inr (Or.inr (Or.inl ⟨c_1, c_2, c_3⟩)))⟩), trivial⟩, hS.F ht9⟩) hS.2.2 dX5_isKind_35 hlocks
      · refine lv_iload_n hx hb dX5_isKind_18 rfl (lv_at hl 0 rfl) ?_
        refine lv_bipush (v := 105) hx hb dX5_isKind_19 (by decide) ?_
        refine lv_icmp_eq (tgt := 30) hx hb dX5_isKind_21 (by decide) (fun c_4 => ?_) (fun c_4 => ?_)
        · refine lv_iconst (v := 1) hx hb dX5_isKind_30 (by decide) ?_
          refine lv_goto (tgt := 35) hx hb dX5_isKind_31 (by decide) ?_
          refine W.widen (k := 0) (n := 0) (Nat.le_of_ble_eq_true rfl) (Nat.le_of_ble_eq_true rfl) ?_
          exact W.zret (v := 1) hx hb hr rfl (fun t ht9 hW9 => ⟨⟨1, (), rfl, (Or.inl ⟨rfl, (Or.inr (Or.inr (Or.inr (Or.inl ⟨c_1, c_2, c_3, c_4⟩))))⟩), trivial⟩, hS.F ht9⟩) hS.2.2 dX5_isKind_35 hlocks
        · refine lv_iload_n hx hb dX5_isKind_24 rfl (lv_at hl 0 rfl) ?_
          refine lv_bipush (v := 97) hx hb dX5_isKind_25 (by decide) ?_
          refine lv_icmp_ne (tgt := 34) hx hb dX5_isKind_27 (by decide) (fun c_5 => ?_) (fun c_5 => ?_)
          · refine lv_iconst (v := 0) hx hb dX5_isKind_34 (by decide) ?_
            refine W.widen (k := 0) (n := 0) (Nat.le_of_ble_eq_true rfl) (Nat.le_of_ble_eq_true rfl) ?_
            exact W.zret (v := 0) hx hb hr rfl (fun t ht9 hW9 => ⟨⟨0, (), rfl, (Or.inr ⟨rfl, ⟨c_1, c_2, c_3, c_4, c_5⟩⟩), trivial⟩, hS.F ht9⟩) hS.2.2 dX5_isKind_35 hlocks
          · refine lv_iconst (v := 1) hx hb dX5_isKind_30 (by decide) ?_
            refine lv_goto (tgt := 35) hx hb dX5_isKind_31 (by decide) ?_
            refine W.widen (k := 0) (n := 0) (Nat.le_of_ble_eq_true rfl) (Nat.le_of_ble_eq_true rfl) ?_
            exact W.zret (v := 1) hx hb hr rfl (fun t ht9 hW9 => ⟨⟨1, (), rfl, (Or.inl ⟨rfl, (Or.inr (Or.inr (Or.inr (Or.inr ⟨c_1, c_2, c_3, c_4, c_5⟩))))⟩), trivial⟩, hS.F ht9⟩) hS.2.2 dX5_isKind_35 hlocks
set_option maxHeartbeats 4000000 in
set_option maxRecDepth 100000 in
theorem k_X11_marchCount (l : Launch) (hfl : l.stackTraces = false) (D : va_G) (g : Nat → ClassId) (z0 sz : Nat) (a : Nat → Nat) (p0 : Int32) (hc_p0 : isC p0) : vx_Met l yX11_marchCount (.code yX11_marchCount cX11_marchCount 2 (some .int) :: TG) (rmk 6 1 6 81) (va_Pc [.ref (a 0), .int p0] (PP D g z0 sz [((a 0), f_x a), ((a 9), f_memory a)])) (va_Qi (fun (r : Int32) (u : Unit) => False) (fun (_ : Unit) (_ : State) => True) (va_A [((a 0), f_x a), ((a 9), f_memory a)] sz)) (vx_X (fun _ : Unit => True) (fun E _ _ => (E = "java/lang/UnsupportedOperationException" ∧ ((p0 = 115) ∨ ((¬ p0 = 115) ∧ (p0 = 116)) ∨ ((¬ p0 = 115) ∧ (¬ p0 = 116) ∧ (p0 = 99)) ∨ ((¬ p0 = 115) ∧ (¬ p0 = 116) ∧ (¬ p0 = 99) ∧ (p0 = 105)) ∨ ((¬ p0 = 115) ∧ (¬ p0 = 116) ∧ (¬ p0 = 99) ∧ (¬ p0 = 105) ∧ (p0 = 97)))) ∨ (E = "java/lang/IllegalArgumentException" ∧ ((¬ p0 = 115) ∧ (¬ p0 = 116) ∧ (¬ p0 = 99) ∧ (¬ p0 = 105) ∧ (¬ p0 = 97)))) (va_A [((a 0), f_x a), ((a 9), f_memory a)] sz)) 1 6 (va_A [((a 0), f_x a), ((a 9), f_memory a)] sz) := by
  refine vxm0 (cc := cX11_marchCount) (n := 2) (by decide) (Nat.le_of_ble_eq_true rfl) ?_
  intro p e s m args below meth c hx hb hr hml htab hown ht hlocks hnm hP0 hD0 hK hZ hsz hz ls hl
  subst hsz
  have hA : ∀ q : Nat, s.heap.size ≤ q → va_A [((a 0), f_x a), ((a 9), f_memory a)] s.heap.size q := Anw
  have hAz : ∀ q, va_A [((a 0), f_x a), ((a 9), f_memory a)] s.heap.size q → z0 ≤ q := Awz hz hD0
  have hS : va_S (va_A [((a 0), f_x a), ((a 9), f_memory a)] s.heap.size) s.heap s.heap [] := va_S.rf
  have hD : va_D (va_A [((a 0), f_x a), ((a 9), f_memory a)] s.heap.size) [((a 0), f_x a), ((a 9), f_memory a)] := hD0.self
  have hP : va_P D vwCl [((a 0), f_x a), ((a 9), f_memory a)] s.heap := hP0
  have hl : lv_has ls 2 [(0, .ref (a 0)), (1, .int p0)] := hl
  refine lv_iload_n hx hb dX11_marchCount_0 rfl (lv_at hl 1 rfl) ?_
  have hPc : va_P D vwCl [] _ := hP.sub (ws' := []) [] rfl
  have hDc : va_D (fun q => z0 ≤ q) [] := (hD.to hAz).pick (ws' := []) [] (by decide) rfl
  have hFc := AnA (ws := [((a 0), f_x a), ((a 9), f_memory a)]) hS.1
  refine va_calli (va_runS (As := [.int p0]) (rest := []) ⟨hx, hb, hml, hown, ht⟩ (k_X5_isKind l D g z0 _ a p0 hc_p0) (va_cwS 1 ht (gS w_256 w_258 w_220 w_257) rfl rfl rfl (by decide +kernel) (le2 rfl rfl)) ⟨PP.blind, PP.mk' hK hZ hz hAz hS hPc hDc⟩ rfl rfl hl.1 rfl (lv_room (Nat.le_of_ble_eq_true rfl)) dX11_marchCount_1 (le2 rfl rfl)) hS (fun q _ h => hFc q h) hFc (fun r u t H locs ht1 hvm hw hB hz1 hk1 hS => ?_)
  rcases hw with hw | hw
  · obtain ⟨rfl, hw⟩ := hw
    rcases hw with hw | hw | hw | hw | hw
    · have c_1 := hw
      have hP := ro1 hP hk1
      refine lv_if_ne (tgt := 15) hx hb dX11_marchCount_4 (by decide) (fun c_2 => ?_) (fun c_2 => ?_)
      · refine lv_aload_n hx hb dX11_marchCount_15 rfl (lv_at hl 0 rfl) ?_
        refine va_get (D := D) (ci := 17) (v := .ref (a 9)) (C := RX11) (T := TX11) (N := 11) hx hb ht in_X11 hown hK.1 hP 0 rfl rfl 8 (by decide) (ht _ w_166) (fun _ h9 => h9) rfl dX11_marchCount_16 ?_
        have hPc : va_P D vwCl [((a 9), f_memory a)] _ := hP.sub (ws' := [((a 9), f_memory a)]) [1] rfl
        have hDc : va_D (fun q => z0 ≤ q) [((a 9), f_memory a)] := (hD.to hAz).pick (ws' := [((a 9), f_memory a)]) [1] (by decide) rfl
        have hFc := va_free (wc := [((a 9), f_memory a)]) hD hS hA [1] rfl
        refine va_calli (va_runV (As := []) (rest := []) ⟨hx, hb, hml, hown, ht⟩ (k_X5_isMarchRight l D g z0 _ a) (cwV 0 ht (gV w_216 w_218 w_219 w_220 w_217) rfl rfl rfl (by decide +kernel) (le2 rfl rfl)) ⟨PP.blind, va_recv hK.1 hP (ci := 11) (q0 := 1) rfl rfl, PP.mk' hK hZ hz hAz hS hPc hDc⟩ rfl rfl hl.1 rfl (lv_room (Nat.le_of_ble_eq_true rfl)) dX11_marchCount_19 (le2 rfl rfl)) hS (fun q _ h => hFc q h) hFc (fun r u t H locs ht1 hvm hw hB hz1 hk1 hS => ?_)
        obtain ⟨rfl, hw⟩ := hw
        obtain ⟨hP1, hD1⟩ := hB
        rw [ht1] at hP1
        obtain ⟨hP, hD⟩ := va_join (wr := [((a 0), f_x a)]) (w1 := [((a 9), f_memory a)]) hP hD [1] [0] rfl rfl (by decide) (by decide) hk1 hFc hP1 hD1
        have hP : va_P D vwCl [((a 0), f_x a), ((a 9), f_memory a)] H := hP
        have hD : va_D (va_A [((a 0), f_x a), ((a 9), f_memory a)] s.heap.size) [((a 0), f_x a), ((a 9), f_memory a)] := hD
        refine lv_if_ne (tgt := 33) hx hb dX11_marchCount_22 (by decide) (fun c_3 => ?_) (fun c_3 => ?_)
        · exact absurd c_3 (by decide)
        · exact thr0 hx hb hfl hown ht hK.2.2 hZ hAz hS hl hml htab hlocks (by decide +kernel) w_69 w_70 at_X11_127 dX11_marchCount_25 dX11_marchCount_28 dX11_marchCount_29 dX11_marchCount_32 rfl rfl rfl rfl (fun t _ hF => ⟨(), trivial, (Or.inl ⟨rfl, (Or.inl c_1)⟩), hF⟩) (fun _ h => h) rfl rfl
      · exact absurd c_2 (by decide)
    · obtain ⟨c_4, c_5⟩ := hw
      have hP := ro1 hP hk1
      refine lv_if_ne (tgt := 15) hx hb dX11_marchCount_4 (by decide) (fun c_6 => ?_) (fun c_6 => ?_)
      · refine lv_aload_n hx hb dX11_marchCount_15 rfl (lv_at hl 0 rfl) ?_
        refine va_get (D := D) (ci := 17) (v := .ref (a 9)) (C := RX11) (T := TX11) (N := 11) hx hb ht in_X11 hown hK.1 hP 0 rfl rfl 8 (by decide) (ht _ w_166) (fun _ h9 => h9) rfl dX11_marchCount_16 ?_
        have hPc : va_P D vwCl [((a 9), f_memory a)] _ := hP.sub (ws' := [((a 9), f_memory a)]) [1] rfl
        have hDc : va_D (fun q => z0 ≤ q) [((a 9), f_memory a)] := (hD.to hAz).pick (ws' := [((a 9), f_memory a)]) [1] (by decide) rfl
        have hFc := va_free (wc := [((a 9), f_memory a)]) hD hS hA [1] rfl
        refine va_calli (va_runV (As := []) (rest := []) ⟨hx, hb, hml, hown, ht⟩ (k_X5_isMarchRight l D g z0 _ a) (cwV 0 ht (gV w_216 w_218 w_219 w_220 w_217) rfl rfl rfl (by decide +kernel) (le2 rfl rfl)) ⟨PP.blind, va_recv hK.1 hP (ci := 11) (q0 := 1) rfl rfl, PP.mk' hK hZ hz hAz hS hPc hDc⟩ rfl rfl hl.1 rfl (lv_room (Nat.le_of_ble_eq_true rfl)) dX11_marchCount_19 (le2 rfl rfl)) hS (fun q _ h => hFc q h) hFc (fun r u t H locs ht1 hvm hw hB hz1 hk1 hS => ?_)
        obtain ⟨rfl, hw⟩ := hw
        obtain ⟨hP1, hD1⟩ := hB
        rw [ht1] at hP1
        obtain ⟨hP, hD⟩ := va_join (wr := [((a 0), f_x a)]) (w1 := [((a 9), f_memory a)]) hP hD [1] [0] rfl rfl (by decide) (by decide) hk1 hFc hP1 hD1
        have hP : va_P D vwCl [((a 0), f_x a), ((a 9), f_memory a)] H := hP
        have hD : va_D (va_A [((a 0), f_x a), ((a 9), f_memory a)] s.heap.size) [((a 0), f_x a), ((a 9), f_memory a)] := hD
        refine lv_if_ne (tgt := 33) hx hb dX11_marchCount_22 (by decide) (fun c_7 => ?_) (fun c_7 => ?_)
        · exact absurd c_7 (by decide)
        · exact thr0 hx hb hfl hown ht hK.2.2 hZ hAz hS hl hml htab hlocks (by decide +kernel) w_69 w_70 at_X11_127 dX11_marchCount_25 dX11_marchCount_28 dX11_marchCount_29 dX11_marchCount_32 rfl rfl rfl rfl (fun t _ hF => ⟨(), trivial, (Or.inl ⟨rfl, (Or.inr (Or.inl ⟨c_4, c_5⟩))⟩), hF⟩) (fun _ h => h) rfl rfl
      · exact absurd c_6 (by decide)
    · obtain ⟨c_8, c_9, c_10⟩ := hw
      have hP := ro1 hP hk1
      refine lv_if_ne (tgt := 15) hx hb dX11_marchCount_4 (by decide) (fun c_11 => ?_) (fun c_11 => ?_)
      · refine lv_aload_n hx hb dX11_marchCount_15 rfl (lv_at hl 0 rfl) ?_
        refine va_get (D := D) (ci := 17) (v := .ref (a 9)) (C := RX11) (T := TX11) (N := 11) hx hb ht in_X11 hown hK.1 hP 0 rfl rfl 8 (by decide) (ht _ w_166) (fun _ h9 => h9) rfl dX11_marchCount_16 ?_
        have hPc : va_P D vwCl [((a 9), f_memory a)] _ := hP.sub (ws' := [((a 9), f_memory a)]) [1] rfl
        have hDc : va_D (fun q => z0 ≤ q) [((a 9), f_memory a)] := (hD.to hAz).pick (ws' := [((a 9), f_memory a)]) [1] (by decide) rfl
        have hFc := va_free (wc := [((a 9), f_memory a)]) hD hS hA [1] rfl
        refine va_calli (va_runV (As := []) (rest := []) ⟨hx, hb, hml, hown, ht⟩ (k_X5_isMarchRight l D g z0 _ a) (cwV 0 ht (gV w_216 w_218 w_219 w_220 w_217) rfl rfl rfl (by decide +kernel) (le2 rfl rfl)) ⟨PP.blind, va_recv hK.1 hP (ci := 11) (q0 := 1) rfl rfl, PP.mk' hK hZ hz hAz hS hPc hDc⟩ rfl rfl hl.1 rfl (lv_room (Nat.le_of_ble_eq_true rfl)) dX11_marchCount_19 (le2 rfl rfl)) hS (fun q _ h => hFc q h) hFc (fun r u t H locs ht1 hvm hw hB hz1 hk1 hS => ?_)
        obtain ⟨rfl, hw⟩ := hw
        obtain ⟨hP1, hD1⟩ := hB
        rw [ht1] at hP1
        obtain ⟨hP, hD⟩ := va_join (wr := [((a 0), f_x a)]) (w1 := [((a 9), f_memory a)]) hP hD [1] [0] rfl rfl (by decide) (by decide) hk1 hFc hP1 hD1
        have hP : va_P D vwCl [((a 0), f_x a), ((a 9), f_memory a)] H := hP
        have hD : va_D (va_A [((a 0), f_x a), ((a 9), f_memory a)] s.heap.size) [((a 0), f_x a), ((a 9), f_memory a)] := hD
        refine lv_if_ne (tgt := 33) hx hb dX11_marchCount_22 (by decide) (fun c_12 => ?_) (fun c_12 => ?_)
        · exact absurd c_12 (by decide)
        · exact thr0 hx hb hfl hown ht hK.2.2 hZ hAz hS hl hml htab hlocks (by decide +kernel) w_69 w_70 at_X11_127 dX11_marchCount_25 dX11_marchCount_28 dX11_marchCount_29 dX11_marchCount_32 rfl rfl rfl rfl (fun t _ hF => ⟨(), trivial, (Or.inl ⟨rfl, (Or.inr (Or.inr (Or.inl ⟨c_8, c_9, c_10⟩)))⟩), hF⟩) (fun _ h => h) rfl rfl
      · exact absurd c_11 (by decide)
    · obtain ⟨c_13, c_14, c_15, c_16⟩ := hw
      have hP := ro1 hP hk1
      refine lv_if_ne (tgt := 15) hx hb dX11_marchCount_4 (by decide) (fun c_17 => ?_) (fun c_17 => ?_)
      · refine lv_aload_n hx hb dX11_marchCount_15 rfl (lv_at hl 0 rfl) ?_
        refine va_get (D := D) (ci := 17) (v := .ref (a 9)) (C := RX11) (T := TX11) (N := 11) hx hb ht in_X11 hown hK.1 hP 0 rfl rfl 8 (by decide) (ht _ w_166) (fun _ h9 => h9) rfl dX11_marchCount_16 ?_
        have hPc : va_P D vwCl [((a 9), f_memory a)] _ := hP.sub (ws' := [((a 9), f_memory a)]) [1] rfl
        have hDc : va_D (fun q => z0 ≤ q) [((a 9), f_memory a)] := (hD.to hAz).pick (ws' := [((a 9), f_memory a)]) [1] (by decide) rfl
        have hFc := va_free (wc := [((a 9), f_memory a)]) hD hS hA [1] rfl
        refine va_calli (va_runV (As := []) (rest := []) ⟨hx, hb, hml, hown, ht⟩ (k_X5_isMarchRight l D g z0 _ a) (cwV 0 ht (gV w_216 w_218 w_219 w_220 w_217) rfl rfl rfl (by decide +kernel) (le2 rfl rfl)) ⟨PP.blind, va_recv hK.1 hP (ci := 11) (q0 := 1) rfl rfl, PP.mk' hK hZ hz hAz hS hPc hDc⟩ rfl rfl hl.1 rfl (lv_room (Nat.le_of_ble_eq_true rfl)) dX11_marchCount_19 (le2 rfl rfl)) hS (fun q _ h => hFc q h) hFc (fun r u t H locs ht1 hvm hw hB hz1 hk1 hS => ?_)
        obtain ⟨rfl, hw⟩ := hw
        obtain ⟨hP1, hD1⟩ := hB
        rw [ht1] at hP1
        obtain ⟨hP, hD⟩ := va_join (wr := [((a 0), f_x a)]) (w1 := [((a 9), f_memory a)]) hP hD [1] [0] rfl rfl (by decide) (by decide) hk1 hFc hP1 hD1
        have hP : va_P D vwCl [((a 0), f_x a), ((a 9), f_memory a)] H := hP
        have hD : va_D (va_A [((a 0), f_x a), ((a 9), f_memory a)] s.heap.size) [((a 0), f_x a), ((a 9), f_memory a)] := hD
        refine lv_if_ne (tgt := 33) hx hb dX11_marchCount_22 (by decide) (fun c_18 => ?_) (fun c_18 => ?_)
        · exact absurd c_18 (by decide)
        · exact thr0 hx hb hfl hown ht hK.2.2 hZ hAz hS hl hml htab hlocks (by decide +kernel) w_69 w_70 at_X11_127 dX11_marchCount_25 dX11_marchCount_28 dX11_marchCount_29 dX11_marchCount_32 rfl rfl rfl rfl (fun t _ hF => ⟨(), trivial, (Or.inl ⟨rfl, (Or.inr (Or.inr (Or.inr (Or.inl ⟨c_13, c_14, c_15, c_16⟩))))⟩), hF⟩) (fun _ h => h) rfl rfl
      · exact absurd c_17 (by decide)
    · obtain ⟨c_19, c_20, c_21, c_22, c_23⟩ := hw
      have hP := ro1 hP hk1
      refine lv_if_ne (tgt := 15) hx hb dX11_marchCount_4 (by decide) (fun c_24 => ?_) (fun c_24 => ?_)
      · refine lv_aload_n hx hb dX11_marchCount_15 rfl (lv_at hl 0 rfl) ?_
        refine va_get (D := D) (ci := 17) (v := .ref (a 9)) (C := RX11) (T := TX11) (N := 11) hx hb ht in_X11 hown hK.1 hP 0 rfl rfl 8 (by decide) (ht _ w_166) (fun _ h9 => h9) rfl dX11_marchCount_16 ?_
        have hPc : va_P D vwCl [((a 9), f_memory a)] _ := hP.sub (ws' := [((a 9), f_memory a)]) [1] rfl
        have hDc : va_D (fun q => z0 ≤ q) [((a 9), f_memory a)] := (hD.to hAz).pick (ws' := [((a 9), f_memory a)]) [1] (by decide) rfl
        have hFc := va_free (wc := [((a 9), f_memory a)]) hD hS hA [1] rfl
        refine va_calli (va_runV (As := []) (rest := []) ⟨hx, hb, hml, hown, ht⟩ (k_X5_isMarchRight l D g z0 _ a) (cwV 0 ht (gV w_216 w_218 w_219 w_220 w_217) rfl rfl rfl (by decide +kernel) (le2 rfl rfl)) ⟨PP.blind, va_recv hK.1 hP (ci := 11) (q0 := 1) rfl rfl, PP.mk' hK hZ hz hAz hS hPc hDc⟩ rfl rfl hl.1 rfl (lv_room (Nat.le_of_ble_eq_true rfl)) dX11_marchCount_19 (le2 rfl rfl)) hS (fun q _ h => hFc q h) hFc (fun r u t H locs ht1 hvm hw hB hz1 hk1 hS => ?_)
        obtain ⟨rfl, hw⟩ := hw
        obtain ⟨hP1, hD1⟩ := hB
        rw [ht1] at hP1
        obtain ⟨hP, hD⟩ := va_join (wr := [((a 0), f_x a)]) (w1 := [((a 9), f_memory a)]) hP hD [1] [0] rfl rfl (by decide) (by decide) hk1 hFc hP1 hD1
        have hP : va_P D vwCl [((a 0), f_x a), ((a 9), f_memory a)] H := hP
        have hD : va_D (va_A [((a 0), f_x a), ((a 9), f_memory a)] s.heap.size) [((a 0), f_x a), ((a 9), f_memory a)] := hD
        refine lv_if_ne (tgt := 33) hx hb dX11_marchCount_22 (by decide) (fun c_25 => ?_) (fun c_25 => ?_)
        · exact absurd c_25 (by decide)
        · exact thr0 hx hb hfl hown ht hK.2.2 hZ hAz hS hl hml htab hlocks (by decide +kernel) w_69 w_70 at_X11_127 dX11_marchCount_25 dX11_marchCount_28 dX11_marchCount_29 dX11_marchCount_32 rfl rfl rfl rfl (fun t _ hF => ⟨(), trivial, (Or.inl ⟨rfl, (Or.inr (Or.inr (Or.inr (Or.inr ⟨c_19, c_20, c_21, c_22, c_23⟩))))⟩), hF⟩) (fun _ h => h) rfl rfl
      · exact absurd c_24 (by decide)
  · obtain ⟨rfl, hw⟩ := hw
    obtain ⟨c_26, c_27, c_28, c_29, c_30⟩ := hw
    have hP := ro1 hP hk1
    refine lv_if_ne (tgt := 15) hx hb dX11_marchCount_4 (by decide) (fun c_31 => ?_) (fun c_31 => ?_)
    · exact absurd c_31 (by decide)
    · exact thr0 hx hb hfl hown ht hK.2.2 hZ hAz hS hl hml htab hlocks (by decide +kernel) w_41 w_42 at_X11_116 dX11_marchCount_7 dX11_marchCount_10 dX11_marchCount_11 dX11_marchCount_14 rfl rfl rfl rfl (fun t _ hF => ⟨(), trivial, (Or.inr ⟨rfl, ⟨c_26, c_27, c_28, c_29, c_30⟩⟩), hF⟩) (fun _ h => h) rfl rfl
set_option maxHeartbeats 4000000 in
set_option maxRecDepth 100000 in
theorem k_X5_isOfTwoCells (l : Launch) (D : va_G) (g : Nat → ClassId) (z0 sz : Nat) (a : Nat → Nat) (p0 : Int32) (hc_p0 : isC p0) : Met l yX5_isOfTwoCells (.code yX5_isOfTwoCells cX5_isOfTwoCells 1 (some .boolean) :: TG) (rmk 0 0 0 0) (va_Pc [.int p0] (PP D g z0 sz [])) (va_Qi (fun (r : Int32) (u : Unit) => ((r = 1) ∧ ((p0 = 99) ∨ ((¬ p0 = 99) ∧ (p0 = 105)) ∨ ((¬ p0 = 99) ∧ (¬ p0 = 105) ∧ (p0 = 97)))) ∨ ((r = 0) ∧ ((¬ p0 = 99) ∧ (¬ p0 = 105) ∧ (¬ p0 = 97)))) (fun (_ : Unit) (_ : State) => True) (va_A [] sz)) 0 0 (va_A [] sz) := by
  refine met0 (cc := cX5_isOfTwoCells) (n := 1) (by decide) (Nat.le_of_ble_eq_true rfl) ?_
  intro p e s m args below meth c hx hb hr hml hown ht hlocks hnm hP0 hD0 hK hZ hsz hz ls hl
  subst hsz
  have hA : ∀ q : Nat, s.heap.size ≤ q → va_A [] s.heap.size q := Anw
  have hAz : ∀ q, va_A [] s.heap.size q → z0 ≤ q := A0z hz
  have hS : va_S (va_A [] s.heap.size) s.heap s.heap [] := va_S.rf
  have hl : lv_has ls 1 [(0, .int p0)] := hl
  refine lv_iload_n hx hb dX5_isOfTwoCells_0 rfl (lv_at hl 0 rfl) ?_
  refine lv_bipush (v := 99) hx hb dX5_isOfTwoCells_1 (by decide) ?_
  refine lv_icmp_eq (tgt := 18) hx hb dX5_isOfTwoCells_3 (by decide) (fun c_1 => ?_) (fun c_1 => ?_)
  · refine lv_iconst (v := 1) hx hb dX5_isOfTwoCells_18 (by decide) ?_
    refine lv_goto (tgt := 23) hx hb dX5_isOfTwoCells_19 (by decide) ?_
    refine W.widen (k := 0) (n := 0) (Nat.le_of_ble_eq_true rfl) (Nat.le_of_ble_eq_true rfl) ?_
    exact W.zret (v := 1) hx hb hr rfl (fun t ht9 hW9 => ⟨⟨1, (), rfl, (Or.inl ⟨rfl, (Or.inl c_1)⟩), trivial⟩, hS.F ht9⟩) hS.2.2 dX5_isOfTwoCells_23 hlocks
  · refine lv_iload_n hx hb dX5_isOfTwoCells_6 rfl (lv_at hl 0 rfl) ?_
    refine lv_bipush (v := 105) hx hb dX5_isOfTwoCells_7 (by decide) ?_
    refine lv_icmp_eq (tgt := 18) hx hb dX5_isOfTwoCells_9 (by decide) (fun c_2 => ?_) (fun c_2 => ?_)
    · refine lv_iconst (v := 1) hx hb dX5_isOfTwoCells_18 (by decide) ?_
      refine lv_goto (tgt := 23) hx hb dX5_isOfTwoCells_19 (by decide) ?_
      refine W.widen (k := 0) (n := 0) (Nat.le_of_ble_eq_true rfl) (Nat.le_of_ble_eq_true rfl) ?_
      exact W.zret (v := 1) hx hb hr rfl (fun t ht9 hW9 => ⟨⟨1, (), rfl, (Or.inl ⟨rfl, (Or.inr (Or.inl ⟨c_1, c_2⟩))⟩), trivial⟩, hS.F ht9⟩) hS.2.2 dX5_isOfTwoCells_23 hlocks
    · refine lv_iload_n hx hb dX5_isOfTwoCells_12 rfl (lv_at hl 0 rfl) ?_
      refine lv_bipush (v := 97) hx hb dX5_isOfTwoCells_13 (by decide) ?_
      refine lv_icmp_ne (tgt := 22) hx hb dX5_isOfTwoCells_15 (by decide) (fun c_3 => ?_) (fun c_3 => ?_)
      · refine lv_iconst (v := 0) hx hb dX5_isOfTwoCells_22 (by decide) ?_
        refine W.widen (k := 0) (n := 0) (Nat.le_of_ble_eq_true rfl) (Nat.le_of_ble_eq_true rfl) ?_
        exact W.zret (v := 0) hx hb hr rfl (fun t ht9 hW9 => ⟨⟨0, (), rfl, (Or.inr ⟨rfl, ⟨c_1, c_2, c_3⟩⟩), trivial⟩, hS.F ht9⟩) hS.2.2 dX5_isOfTwoCells_23 hlocks
      · refine lv_iconst (v := 1) hx hb dX5_isOfTwoCells_18 (by decide) ?_
        refine lv_goto (tgt := 23) hx hb dX5_isOfTwoCells_19 (by decide) ?_
        refine W.widen (k := 0) (n := 0) (Nat.le_of_ble_eq_true rfl) (Nat.le_of_ble_eq_true rfl) ?_
        exact W.zret (v := 1) hx hb hr rfl (fun t ht9 hW9 => ⟨⟨1, (), rfl, (Or.inl ⟨rfl, (Or.inr (Or.inr ⟨c_1, c_2, c_3⟩))⟩), trivial⟩, hS.F ht9⟩) hS.2.2 dX5_isOfTwoCells_23 hlocks
set_option maxHeartbeats 4000000 in
set_option maxRecDepth 100000 in
theorem k_X5_isFault (l : Launch) (D : va_G) (g : Nat → ClassId) (z0 sz : Nat) (a : Nat → Nat) (p0 : Int32) (p1 : Int32) (p2 : Int32) (p3 : Int32) (p4 : Int32) (hc_p0 : isC p0) : Met l yX5_isFault (.code yX5_isFault cX5_isFault 5 (some .boolean) :: TG) (rmk 1 0 0 20) (va_Pc [.int p0, .int p1, .int p2, .int p3, .int p4] (PP D g z0 sz [])) (va_Qi (fun (r : Int32) (u : Unit) => ((r = 0) ∧ (((p0 = 115) ∧ (p1 < 0)) ∨ ((p0 = 115) ∧ (¬ p1 < 0) ∧ (p1 < 8) ∧ (¬ p0 = 99) ∧ (¬ p0 = 105) ∧ (¬ p0 = 97) ∧ (¬ p3 = 0) ∧ (¬ p3 = 1)) ∨ ((p0 = 115) ∧ (¬ p1 < 0) ∧ (¬ p1 < 8)) ∨ ((¬ p0 = 115) ∧ (p0 = 116) ∧ (p1 < 0)) ∨ ((¬ p0 = 115) ∧ (p0 = 116) ∧ (¬ p1 < 0) ∧ (p1 < 8) ∧ (¬ p0 = 99) ∧ (¬ p0 = 105) ∧ (¬ p0 = 97) ∧ (¬ p3 = 0) ∧ (¬ p3 = 1)) ∨ ((¬ p0 = 115) ∧ (p0 = 116) ∧ (¬ p1 < 0) ∧ (¬ p1 < 8)) ∨ ((¬ p0 = 115) ∧ (¬ p0 = 116) ∧ (p0 = 99) ∧ (p1 < 0)) ∨ ((¬ p0 = 115) ∧ (¬ p0 = 116) ∧ (p0 = 99) ∧ (¬ p1 < 0) ∧ (p1 < 8) ∧ (p2 < 0)) ∨ ((¬ p0 = 115) ∧ (¬ p0 = 116) ∧ (p0 = 99) ∧ (¬ p1 < 0) ∧ (p1 < 8) ∧ (¬ p2 < 0) ∧ ((8 : Int32) ≤ p2)) ∨ ((¬ p0 = 115) ∧ (¬ p0 = 116) ∧ (p0 = 99) ∧ (¬ p1 < 0) ∧ (p1 < 8) ∧ (¬ p2 < 0) ∧ (¬ (8 : Int32) ≤ p2) ∧ (¬ p1 = p2) ∧ (¬ p0 = 97) ∧ (p3 = 0) ∧ (¬ p4 = 0) ∧ (¬ p4 = 1)) ∨ ((¬ p0 = 115) ∧ (¬ p0 = 116) ∧ (p0 = 99) ∧ (¬ p1 < 0) ∧ (p1 < 8) ∧ (¬ p2 < 0) ∧ (¬ (8 : Int32) ≤ p2) ∧ (¬ p1 = p2) ∧ (¬ p0 = 97) ∧ (¬ p3 = 0) ∧ (p3 = 1) ∧ (¬ p4 = 0) ∧ (¬ p4 = 1)) ∨ ((¬ p0 = 115) ∧ (¬ p0 = 116) ∧ (p0 = 99) ∧ (¬ p1 < 0) ∧ (p1 < 8) ∧ (¬ p2 < 0) ∧ (¬ (8 : Int32) ≤ p2) ∧ (¬ p1 = p2) ∧ (¬ p0 = 97) ∧ (¬ p3 = 0) ∧ (¬ p3 = 1)) ∨ ((¬ p0 = 115) ∧ (¬ p0 = 116) ∧ (p0 = 99) ∧ (¬ p1 < 0) ∧ (p1 < 8) ∧ (¬ p2 < 0) ∧ (¬ (8 : Int32) ≤ p2) ∧ (p1 = p2)) ∨ ((¬ p0 = 115) ∧ (¬ p0 = 116) ∧ (p0 = 99) ∧ (¬ p1 < 0) ∧ (¬ p1 < 8)) ∨ ((¬ p0 = 115) ∧ (¬ p0 = 116) ∧ (¬ p0 = 99) ∧ (p0 = 105) ∧ (p1 < 0)) ∨ ((¬ p0 = 115) ∧ (¬ p0 = 116) ∧ (¬ p0 = 99) ∧ (p0 = 105) ∧ (¬ p1 < 0) ∧ (p1 < 8) ∧ (p2 < 0)) ∨ ((¬ p0 = 115) ∧ (¬ p0 = 116) ∧ (¬ p0 = 99) ∧ (p0 = 105) ∧ (¬ p1 < 0) ∧ (p1 < 8) ∧ (¬ p2 < 0) ∧ ((8 : Int32) ≤ p2)) ∨ ((¬ p0 = 115) ∧ (¬ p0 = 116) ∧ (¬ p0 = 99) ∧ (p0 = 105) ∧ (¬ p1 < 0) ∧ (p1 < 8) ∧ (¬ p2 < 0) ∧ (¬ (8 : Int32) ≤ p2) ∧ (¬ p1 = p2) ∧ (¬ p0 = 97) ∧ (¬ p3 = 0) ∧ (¬ p3 = 1)) ∨ ((¬ p0 = 115) ∧ (¬ p0 = 116) ∧ (¬ p0 = 99) ∧ (p0 = 105) ∧ (¬ p1 < 0) ∧ (p1 < 8) ∧ (¬ p2 < 0) ∧ (¬ (8 : Int32) ≤ p2) ∧ (p1 = p2)) ∨ ((¬ p0 = 115) ∧ (¬ p0 = 116) ∧ (¬ p0 = 99) ∧ (p0 = 105) ∧ (¬ p1 < 0) ∧ (¬ p1 < 8)) ∨ ((¬ p0 = 115) ∧ (¬ p0 = 116) ∧ (¬ p0 = 99) ∧ (¬ p0 = 105) ∧ (p0 = 97) ∧ (p1 < 0)) ∨ ((¬ p0 = 115) ∧ (¬ p0 = 116) ∧ (¬ p0 = 99) ∧ (¬ p0 = 105) ∧ (p0 = 97) ∧ (¬ p1 < 0) ∧ (p1 < 8) ∧ (p2 < 0)) ∨ ((¬ p0 = 115) ∧ (¬ p0 = 116) ∧ (¬ p0 = 99) ∧ (¬ p0 = 105) ∧ (p0 = 97) ∧ (¬ p1 < 0) ∧ (p1 < 8) ∧ (¬ p2 < 0) ∧ ((8 : Int32) ≤ p2)) ∨ ((¬ p0 = 115) ∧ (¬ p0 = 116) ∧ (¬ p0 = 99) ∧ (¬ p0 = 105) ∧ (p0 = 97) ∧ (¬ p1 < 0) ∧ (p1 < 8) ∧ (¬ p2 < 0) ∧ (¬ (8 : Int32) ≤ p2) ∧ (p1 = p2)) ∨ ((¬ p0 = 115) ∧ (¬ p0 = 116) ∧ (¬ p0 = 99) ∧ (¬ p0 = 105) ∧ (p0 = 97) ∧ (¬ p1 < 0) ∧ (¬ p1 < 8)) ∨ ((¬ p0 = 115) ∧ (¬ p0 = 116) ∧ (¬ p0 = 99) ∧ (¬ p0 = 105) ∧ (¬ p0 = 97)))) ∨ ((r = 1) ∧ (((p0 = 115) ∧ (¬ p1 < 0) ∧ (p1 < 8) ∧ (¬ p0 = 99) ∧ (¬ p0 = 105) ∧ (¬ p0 = 97) ∧ (p3 = 0)) ∨ ((p0 = 115) ∧ (¬ p1 < 0) ∧ (p1 < 8) ∧ (¬ p0 = 99) ∧ (¬ p0 = 105) ∧ (¬ p0 = 97) ∧ (¬ p3 = 0) ∧ (p3 = 1)) ∨ ((¬ p0 = 115) ∧ (p0 = 116) ∧ (¬ p1 < 0) ∧ (p1 < 8) ∧ (¬ p0 = 99) ∧ (¬ p0 = 105) ∧ (¬ p0 = 97) ∧ (p3 = 0)) ∨ ((¬ p0 = 115) ∧ (p0 = 116) ∧ (¬ p1 < 0) ∧ (p1 < 8) ∧ (¬ p0 = 99) ∧ (¬ p0 = 105) ∧ (¬ p0 = 97) ∧ (¬ p3 = 0) ∧ (p3 = 1)) ∨ ((¬ p0 = 115) ∧ (¬ p0 = 116) ∧ (p0 = 99) ∧ (¬ p1 < 0) ∧ (p1 < 8) ∧ (¬ p2 < 0) ∧ (¬ (8 : Int32) ≤ p2) ∧ (¬ p1 = p2) ∧ (¬ p0 = 97) ∧ (p3 = 0) ∧ (p4 = 0)) ∨ ((¬ p0 = 115) ∧ (¬ p0 = 116) ∧ (p0 = 99) ∧ (¬ p1 < 0) ∧ (p1 < 8) ∧ (¬ p2 < 0) ∧ (¬ (8 : Int32) ≤ p2) ∧ (¬ p1 = p2) ∧ (¬ p0 = 97) ∧ (p3 = 0) ∧ (¬ p4 = 0) ∧ (p4 = 1)) ∨ ((¬ p0 = 115) ∧ (¬ p0 = 116) ∧ (p0 = 99) ∧ (¬ p1 < 0) ∧ (p1 < 8) ∧ (¬ p2 < 0) ∧ (¬ (8 : Int32) ≤ p2) ∧ (¬ p1 = p2) ∧ (¬ p0 = 97) ∧ (¬ p3 = 0) ∧ (p3 = 1) ∧ (p4 = 0)) ∨ ((¬ p0 = 115) ∧ (¬ p0 = 116) ∧ (p0 = 99) ∧ (¬ p1 < 0) ∧ (p1 < 8) ∧ (¬ p2 < 0) ∧ (¬ (8 : Int32) ≤ p2) ∧ (¬ p1 = p2) ∧ (¬ p0 = 97) ∧ (¬ p3 = 0) ∧ (p3 = 1) ∧ (¬ p4 = 0) ∧ (p4 = 1)) ∨ ((¬ p0 = 115) ∧ (¬ p0 = 116) ∧ (¬ p0 = 99) ∧ (p0 = 105) ∧ (¬ p1 < 0) ∧ (p1 < 8) ∧ (¬ p2 < 0) ∧ (¬ (8 : Int32) ≤ p2) ∧ (¬ p1 = p2) ∧ (¬ p0 = 97) ∧ (p3 = 0)) ∨ ((¬ p0 = 115) ∧ (¬ p0 = 116) ∧ (¬ p0 = 99) ∧ (p0 = 105) ∧ (¬ p1 < 0) ∧ (p1 < 8) ∧ (¬ p2 < 0) ∧ (¬ (8 : Int32) ≤ p2) ∧ (¬ p1 = p2) ∧ (¬ p0 = 97) ∧ (¬ p3 = 0) ∧ (p3 = 1)) ∨ ((¬ p0 = 115) ∧ (¬ p0 = 116) ∧ (¬ p0 = 99) ∧ (¬ p0 = 105) ∧ (p0 = 97) ∧ (¬ p1 < 0) ∧ (p1 < 8) ∧ (¬ p2 < 0) ∧ (¬ (8 : Int32) ≤ p2) ∧ (¬ p1 = p2))))) (fun (_ : Unit) (_ : State) => True) (va_A [] sz)) 0 0 (va_A [] sz) := by
  refine met0 (cc := cX5_isFault) (n := 5) (by decide) (Nat.le_of_ble_eq_true rfl) ?_
  intro p e s m args below meth c hx hb hr hml hown ht hlocks hnm hP0 hD0 hK hZ hsz hz ls hl
  subst hsz
  have hA : ∀ q : Nat, s.heap.size ≤ q → va_A [] s.heap.size q := Anw
  have hAz : ∀ q, va_A [] s.heap.size q → z0 ≤ q := A0z hz
  have hS : va_S (va_A [] s.heap.size) s.heap s.heap [] := va_S.rf
  have hl : lv_has ls 5 [(0, .int p0), (1, .int p1), (2, .int p2), (3, .int p3), (4, .int p4)] := hl
  refine lv_iload_n hx hb dX5_isFault_0 rfl (lv_at hl 0 rfl) ?_
  have hPc : va_P D vwCl [] _ := (ro0 hP0 hS).sub (ws' := []) [] rfl
  have hDc : va_D (fun q => z0 ≤ q) [] := hD0.pick (ws' := []) [] (by decide) rfl
  have hFc := AnA (ws := []) hS.1
  refine va_calli (va_runS (As := [.int p0]) (rest := []) ⟨hx, hb, hml, hown, ht⟩ (k_X5_isKind l D g z0 _ a p0 hc_p0) (va_cwS 1 ht (gS w_259 w_258 w_220 w_257) rfl rfl rfl (by decide +kernel) (le2 rfl rfl)) ⟨PP.blind, PP.mk' hK hZ hz hAz hS hPc hDc⟩ rfl rfl hl.1 rfl (lv_room (Nat.le_of_ble_eq_true rfl)) dX5_isFault_1 (le2 rfl rfl)) hS (fun q _ h => hFc q h) hFc (fun r u t H locs ht1 hvm hw hB hz1 hk1 hS => ?_)
  rcases hw with hw | hw
  · obtain ⟨rfl, hw⟩ := hw
    rcases hw with hw | hw | hw | hw | hw
    · have c_1 := hw
      refine lv_if_eq (tgt := 17) hx hb dX5_isFault_4 (by decide) (fun c_2 => ?_) (fun c_2 => ?_)
      · exact absurd c_2 (by decide)
      · refine lv_iload_n hx hb dX5_isFault_7 rfl (lv_at hl 1 rfl) ?_
        refine lv_if_lt (tgt := 17) hx hb dX5_isFault_8 (by decide) (fun c_3 => ?_) (fun c_3 => ?_)
        · refine lv_iconst (v := 0) hx hb dX5_isFault_17 (by decide) ?_
          refine W.widen (k := 0) (n := 0) (Nat.le_of_ble_eq_true rfl) (Nat.le_of_ble_eq_true rfl) ?_
          exact W.zret (v := 0) hx hb hr rfl (fun t ht9 hW9 => ⟨⟨0, (), rfl, (Or.inl ⟨rfl, (Or.inl ⟨c_1, c_3⟩)⟩), trivial⟩, hS.F ht9⟩) hS.2.2 dX5_isFault_18 hlocks
        · refine lv_iload_n hx hb dX5_isFault_11 rfl (lv_at hl 1 rfl) ?_
          refine lv_bipush (v := 8) hx hb dX5_isFault_12 (by decide) ?_
          refine lv_icmp_lt (tgt := 19) hx hb dX5_isFault_14 (by decide) (fun c_4 => ?_) (fun c_4 => ?_)
          · refine lv_iload_n hx hb dX5_isFault_19 rfl (lv_at hl 0 rfl) ?_
            have hPc : va_P D vwCl [] _ := (ro0 hP0 hS).sub (ws' := []) [] rfl
            have hDc : va_D (fun q => z0 ≤ q) [] := hD0.pick (ws' := []) [] (by decide) rfl
            have hFc := AnA (ws := []) hS.1
            refine va_calli (va_runS (As := [.int p0]) (rest := []) ⟨hx, hb, hml, hown, ht⟩ (k_X5_isOfTwoCells l D g z0 _ a p0 hc_p0) (va_cwS 1 ht (gS w_260 w_262 w_220 w_261) rfl rfl rfl (by decide +kernel) (le2 rfl rfl)) ⟨PP.blind, PP.mk' hK hZ hz hAz hS hPc hDc⟩ rfl rfl hl.1 rfl (lv_room (Nat.le_of_ble_eq_true rfl)) dX5_isFault_20 (le2 rfl rfl)) hS (fun q _ h => hFc q h) hFc (fun r u t H locs ht1 hvm hw hB hz1 hk1 hS => ?_)
            rcases hw with hw | hw
            · obtain ⟨rfl, hw⟩ := hw
              rcases hw with hw | hw | hw
              · have c_5 := hw
                exact absurd (c_1.symm.trans c_5) (by decide)
              · obtain ⟨c_6, c_7⟩ := hw
                exact absurd (c_1.symm.trans c_7) (by decide)
              · obtain ⟨c_8, c_9, c_10⟩ := hw
                exact absurd (c_1.symm.trans c_10) (by decide)
            · obtain ⟨rfl, hw⟩ := hw
              obtain ⟨c_11, c_12, c_13⟩ := hw
              refine lv_if_eq (tgt := 43) hx hb dX5_isFault_23 (by decide) (fun c_14 => ?_) (fun c_14 => ?_)
              · refine lv_iload_n hx hb dX5_isFault_43 rfl (lv_at hl 0 rfl) ?_
                refine lv_bipush (v := 97) hx hb dX5_isFault_44 (by decide) ?_
                refine lv_icmp_eq (tgt := 60) hx hb dX5_isFault_46 (by decide) (fun c_15 => ?_) (fun c_15 => ?_)
                · exact absurd (c_1.symm.trans c_15) (by decide)
                · refine lv_iload_n hx hb dX5_isFault_49 rfl (lv_at hl 3 rfl) ?_
                  refine lv_if_eq (tgt := 60) hx hb dX5_isFault_50 (by decide) (fun c_16 => ?_) (fun c_16 => ?_)
                  · refine lv_iload_n hx hb dX5_isFault_60 rfl (lv_at hl 0 rfl) ?_
                    refine lv_bipush (v := 99) hx hb dX5_isFault_61 (by decide) ?_
                    refine lv_icmp_ne (tgt := 77) hx hb dX5_isFault_63 (by decide) (fun c_17 => ?_) (fun c_17 => ?_)
                    · refine lv_iconst (v := 1) hx hb dX5_isFault_77 (by decide) ?_
                      refine lv_goto (tgt := 82) hx hb dX5_isFault_78 (by decide) ?_
                      refine W.widen (k := 0) (n := 0) (Nat.le_of_ble_eq_true rfl) (Nat.le_of_ble_eq_true rfl) ?_
                      exact W.zret (v := 1) hx hb hr rfl (fun t ht9 hW9 => ⟨⟨1, (), rfl, (Or.inr ⟨rfl, (Or.inl ⟨c_1, c_3, c_4, c_11, c_12, c_13, c_16⟩)⟩), trivial⟩, hS.F ht9⟩) hS.2.2 dX5_isFault_82 hlocks
                    · exact absurd (c_1.symm.trans c_17) (by decide)
                  · refine lv_iload_n hx hb dX5_isFault_53 rfl (lv_at hl 3 rfl) ?_
                    refine lv_iconst (v := 1) hx hb dX5_isFault_54 (by decide) ?_
                    refine lv_icmp_eq (tgt := 60) hx hb dX5_isFault_55 (by decide) (fun c_18 => ?_) (fun c_18 => ?_)
                    · refine lv_iload_n hx hb dX5_isFault_60 rfl (lv_at hl 0 rfl) ?_
                      refine lv_bipush (v := 99) hx hb dX5_isFault_61 (by decide) ?_
                      refine lv_icmp_ne (tgt := 77) hx hb dX5_isFault_63 (by decide) (fun c_19 => ?_) (fun c_19 => ?_)
                      · refine lv_iconst (v := 1) hx hb dX5_isFault_77 (by decide) ?_
                        refine lv_goto (tgt := 82) hx hb dX5_isFault_78 (by decide) ?_
                        refine W.widen (k := 0) (n := 0) (Nat.le_of_ble_eq_true rfl) (Nat.le_of_ble_eq_true rfl) ?_
                        exact W.zret (v := 1) hx hb hr rfl (fun t ht9 hW9 => ⟨⟨1, (), rfl, (Or.inr ⟨rfl, (Or.inr (Or.inl ⟨c_1, c_3, c_4, c_11, c_12, c_13, c_16, c_18⟩))⟩), trivial⟩, hS.F ht9⟩) hS.2.2 dX5_isFault_82 hlocks
                      · exact absurd (c_1.symm.trans c_19) (by decide)
                    · refine lv_iconst (v := 0) hx hb dX5_isFault_58 (by decide) ?_
                      refine W.widen (k := 0) (n := 0) (Nat.le_of_ble_eq_true rfl) (Nat.le_of_ble_eq_true rfl) ?_
                      exact W.zret (v := 0) hx hb hr rfl (fun t ht9 hW9 => ⟨⟨0, (), rfl, (Or.inl ⟨rfl, (Or.inr (Or.inl ⟨c_1, c_3, c_4, c_11, c_12, c_13, c_16, c_18⟩))⟩), trivial⟩, hS.F ht9⟩) hS.2.2 dX5_isFault_59 hlocks
              · exact absurd c_14 (by decide)
          · refine lv_iconst (v := 0) hx hb dX5_isFault_17 (by decide) ?_
            refine W.widen (k := 0) (n := 0) (Nat.le_of_ble_eq_true rfl) (Nat.le_of_ble_eq_true rfl) ?_
            exact W.zret (v := 0) hx hb hr rfl (fun t ht9 hW9 => ⟨⟨0, (), rfl, (Or.inl ⟨rfl, (Or.inr (Or.inr (Or.inl ⟨c_1, c_3, c_4⟩)))⟩), trivial⟩, hS.F ht9⟩) hS.2.2 dX5_isFault_18 hlocks
    · obtain ⟨c_20, c_21⟩ := hw
      refine lv_if_eq (tgt := 17) hx hb dX5_isFault_4 (by decide) (fun c_22 => ?_) (fun c_22 => ?_)
      · exact absurd c_22 (by decide)
      · refine lv_iload_n hx hb dX5_isFault_7 rfl (lv_at hl 1 rfl) ?_
        refine lv_if_lt (tgt := 17) hx hb dX5_isFault_8 (by decide) (fun c_23 => ?_) (fun c_23 => ?_)
        · refine lv_iconst (v := 0) hx hb dX5_isFault_17 (by decide) ?_
          refine W.widen (k := 0) (n := 0) (Nat.le_of_ble_eq_true rfl) (Nat.le_of_ble_eq_true rfl) ?_
          exact W.zret (v := 0) hx hb hr rfl (fun t ht9 hW9 => ⟨⟨0, (), rfl, (Or.inl ⟨rfl, (Or.inr (Or.inr (Or.inr (Or.inl ⟨c_20, c_21, c_23⟩))))⟩), trivial⟩, hS.F ht9⟩) hS.2.2 dX5_isFault_18 hlocks
        · refine lv_iload_n hx hb dX5_isFault_11 rfl (lv_at hl 1 rfl) ?_
          refine lv_bipush (v := 8) hx hb dX5_isFault_12 (by decide) ?_
          refine lv_icmp_lt (tgt := 19) hx hb dX5_isFault_14 (by decide) (fun c_24 => ?_) (fun c_24 => ?_)
          · refine lv_iload_n hx hb dX5_isFault_19 rfl (lv_at hl 0 rfl) ?_
            have hPc : va_P D vwCl [] _ := (ro0 hP0 hS).sub (ws' := []) [] rfl
            have hDc : va_D (fun q => z0 ≤ q) [] := hD0.pick (ws' := []) [] (by decide) rfl
            have hFc := AnA (ws := []) hS.1
            refine va_calli (va_runS (As := [.int p0]) (rest := []) ⟨hx, hb, hml, hown, ht⟩ (k_X5_isOfTwoCells l D g z0 _ a p0 hc_p0) (va_cwS 1 ht (gS w_260 w_262 w_220 w_261) rfl rfl rfl (by decide +kernel) (le2 rfl rfl)) ⟨PP.blind, PP.mk' hK hZ hz hAz hS hPc hDc⟩ rfl rfl hl.1 rfl (lv_room (Nat.le_of_ble_eq_true rfl)) dX5_isFault_20 (le2 rfl rfl)) hS (fun q _ h => hFc q h) hFc (fun r u t H locs ht1 hvm hw hB hz1 hk1 hS => ?_)
            rcases hw with hw | hw
            · obtain ⟨rfl, hw⟩ := hw
              rcases hw with hw | hw | hw
              · have c_25 := hw
                exact absurd (c_21.symm.trans c_25) (by decide)
              · obtain ⟨c_26, c_27⟩ := hw
                exact absurd (c_21.symm.trans c_27) (by decide)
              · obtain ⟨c_28, c_29, c_30⟩ := hw
                exact absurd (c_21.symm.trans c_30) (by decide)
            · obtain ⟨rfl, hw⟩ := hw
              obtain ⟨c_31, c_32, c_33⟩ := hw
              refine lv_if_eq (tgt := 43) hx hb dX5_isFault_23 (by decide) (fun c_34 => ?_) (fun c_34 => ?_)
              · refine lv_iload_n hx hb dX5_isFault_43 rfl (lv_at hl 0 rfl) ?_
                refine lv_bipush (v := 97) hx hb dX5_isFault_44 (by decide) ?_
                refine lv_icmp_eq (tgt := 60) hx hb dX5_isFault_46 (by decide) (fun c_35 => ?_) (fun c_35 => ?_)
                · exact absurd (c_21.symm.trans c_35) (by decide)
                · refine lv_iload_n hx hb dX5_isFault_49 rfl (lv_at hl 3 rfl) ?_
                  refine lv_if_eq (tgt := 60) hx hb dX5_isFault_50 (by decide) (fun c_36 => ?_) (fun c_36 => ?_)
                  · refine lv_iload_n hx hb dX5_isFault_60 rfl (lv_at hl 0 rfl) ?_
                    refine lv_bipush (v := 99) hx hb dX5_isFault_61 (by decide) ?_
                    refine lv_icmp_ne (tgt := 77) hx hb dX5_isFault_63 (by decide) (fun c_37 => ?_) (fun c_37 => ?_)
                    · refine lv_iconst (v := 1) hx hb dX5_isFault_77 (by decide) ?_
                      refine lv_goto (tgt := 82) hx hb dX5_isFault_78 (by decide) ?_
                      refine W.widen (k := 0) (n := 0) (Nat.le_of_ble_eq_true rfl) (Nat.le_of_ble_eq_true rfl) ?_
                      exact W.zret (v := 1) hx hb hr rfl (fun t ht9 hW9 => ⟨⟨1, (), rfl, (Or.inr ⟨rfl, (Or.inr (Or.inr (Or.inl ⟨c_20, c_21, c_23, c_24, c_31, c_32, c_33, c_36⟩)))⟩), trivial⟩, hS.F ht9⟩) hS.2.2 dX5_isFault_82 hlocks
                    · exact absurd (c_21.symm.trans c_37) (by decide)
                  · refine lv_iload_n hx hb dX5_isFault_53 rfl (lv_at hl 3 rfl) ?_
                    refine lv_iconst (v := 1) hx hb dX5_isFault_54 (by decide) ?_
                    refine lv_icmp_eq (tgt := 60) hx hb dX5_isFault_55 (by decide) (fun c_38 => ?_) (fun c_38 => ?_)
                    · refine lv_iload_n hx hb dX5_isFault_60 rfl (lv_at hl 0 rfl) ?_
                      refine lv_bipush (v := 99) hx hb dX5_isFault_61 (by decide) ?_
                      refine lv_icmp_ne (tgt := 77) hx hb dX5_isFault_63 (by decide) (fun c_39 => ?_) (fun c_39 => ?_)
                      · refine lv_iconst (v := 1) hx hb dX5_isFault_77 (by decide) ?_
                        refine lv_goto (tgt := 82) hx hb dX5_isFault_78 (by decide) ?_
                        refine W.widen (k := 0) (n := 0) (Nat.le_of_ble_eq_true rfl) (Nat.le_of_ble_eq_true rfl) ?_
                        exact W.zret (v := 1) hx hb hr rfl (fun t ht9 hW9 => ⟨⟨1, (), rfl, (Or.inr ⟨rfl, (Or.inr (Or.inr (Or.inr (Or.inl ⟨c_20, c_21, c_23, c_24, c_31, c_32, c_33, c_36, c_38⟩))))⟩), trivial⟩, hS.F ht9⟩) hS.2.2 dX5_isFault_82 hlocks
                      · exact absurd (c_21.symm.trans c_39) (by decide)
                    · refine lv_iconst (v := 0) hx hb dX5_isFault_58 (by decide) ?_
                      refine W.widen (k := 0) (n := 0) (Nat.le_of_ble_eq_true rfl) (Nat.le_of_ble_eq_true rfl) ?_
                      exact W.zret (v := 0) hx hb hr rfl (fun t ht9 hW9 => ⟨⟨0, (), rfl, (Or.inl ⟨rfl, (Or.inr (Or.inr (Or.inr (Or.inr (Or.inl ⟨c_20, c_21, c_23, c_24, c_31, c_32, c_33, c_36, c_38⟩)))))⟩), trivial⟩, hS.F ht9⟩) hS.2.2 dX5_isFault_59 hlocks
              · exact absurd c_34 (by decide)
          · refine lv_iconst (v := 0) hx hb dX5_isFault_17 (by decide) ?_
            refine W.widen (k := 0) (n := 0) (Nat.le_of_ble_eq_true rfl) (Nat.le_of_ble_eq_true rfl) ?_
            exact W.zret (v := 0) hx hb hr rfl (fun t ht9 hW9 => ⟨⟨0, (), rfl, (Or.inl ⟨rfl, (Or.inr (Or.inr (Or.inr (Or.inr (Or.inr (Or.inl ⟨c_20, c_21, c_23, c_24⟩))))))⟩), trivial⟩, hS.F ht9⟩) hS.2.2 dX5_isFault_18 hlocks
    · obtain ⟨c_40, c_41, c_42⟩ := hw
      refine lv_if_eq (tgt := 17) hx hb dX5_isFault_4 (by decide) (fun c_43 => ?_) (fun c_43 => ?_)
      · exact absurd c_43 (by decide)
      · refine lv_iload_n hx hb dX5_isFault_7 rfl (lv_at hl 1 rfl) ?_
        refine lv_if_lt (tgt := 17) hx hb dX5_isFault_8 (by decide) (fun c_44 => ?_) (fun c_44 => ?_)
        · refine lv_iconst (v := 0) hx hb dX5_isFault_17 (by decide) ?_
          refine W.widen (k := 0) (n := 0) (Nat.le_of_ble_eq_true rfl) (Nat.le_of_ble_eq_true rfl) ?_
          exact W.zret (v := 0) hx hb hr rfl (fun t ht9 hW9 => ⟨⟨0, (), rfl, (Or.inl ⟨rfl, (Or.inr (Or.inr (Or.inr (Or.inr (Or.inr (Or.inr (Or.inl ⟨c_40, c_41, c_42, c_44⟩)))))))⟩), trivial⟩, hS.F ht9⟩) hS.2.2 dX5_isFault_18 hlocks
        · refine lv_iload_n hx hb dX5_isFault_11 rfl (lv_at hl 1 rfl) ?_
          refine lv_bipush (v := 8) hx hb dX5_isFault_12 (by decide) ?_
          refine lv_icmp_lt (tgt := 19) hx hb dX5_isFault_14 (by decide) (fun c_45 => ?_) (fun c_45 => ?_)
          · refine lv_iload_n hx hb dX5_isFault_19 rfl (lv_at hl 0 rfl) ?_
            have hPc : va_P D vwCl [] _ := (ro0 hP0 hS).sub (ws' := []) [] rfl
            have hDc : va_D (fun q => z0 ≤ q) [] := hD0.pick (ws' := []) [] (by decide) rfl
            have hFc := AnA (ws := []) hS.1
            refine va_calli (va_runS (As := [.int p0]) (rest := []) ⟨hx, hb, hml, hown, ht⟩ (k_X5_isOfTwoCells l D g z0 _ a p0 hc_p0) (va_cwS 1 ht (gS w_260 w_262 w_220 w_261) rfl rfl rfl (by decide +kernel) (le2 rfl rfl)) ⟨PP.blind, PP.mk' hK hZ hz hAz hS hPc hDc⟩ rfl rfl hl.1 rfl (lv_room (Nat.le_of_ble_eq_true rfl)) dX5_isFault_20 (le2 rfl rfl)) hS (fun q _ h => hFc q h) hFc (fun r u t H locs ht1 hvm hw hB hz1 hk1 hS => ?_)
            rcases hw with hw | hw
            · obtain ⟨rfl, hw⟩ := hw
              rcases hw with hw | hw | hw
              · have c_46 := hw
                refine lv_if_eq (tgt := 43) hx hb dX5_isFault_23 (by decide) (fun c_47 => ?_) (fun c_47 => ?_)
                · exact absurd c_47 (by decide)
                · refine lv_iload_n hx hb dX5_isFault_26 rfl (lv_at hl 2 rfl) ?_
                  refine lv_if_lt (tgt := 41) hx hb dX5_isFault_27 (by decide) (fun c_48 => ?_) (fun c_48 => ?_)
                  · refine lv_iconst (v := 0) hx hb dX5_isFault_41 (by decide) ?_
                    refine W.widen (k := 0) (n := 0) (Nat.le_of_ble_eq_true rfl) (Nat.le_of_ble_eq_true rfl) ?_
                    exact W.zret (v := 0) hx hb hr rfl (fun t ht9 hW9 => ⟨⟨0, (), rfl, (Or.inl ⟨rfl, (Or.inr (Or.inr (Or.inr (Or.inr (Or.inr (Or.inr (Or.inr (Or.inl ⟨c_40, c_41, c_42, c_44, c_45, c_48⟩))))))))⟩), trivial⟩, hS.F ht9⟩) hS.2.2 dX5_isFault_42 hlocks
                  · refine lv_iload_n hx hb dX5_isFault_30 rfl (lv_at hl 2 rfl) ?_
                    refine lv_bipush (v := 8) hx hb dX5_isFault_31 (by decide) ?_
                    refine lv_icmp_ge (tgt := 41) hx hb dX5_isFault_33 (by decide) (fun c_49 => ?_) (fun c_49 => ?_)
                    · refine lv_iconst (v := 0) hx hb dX5_isFault_41 (by decide) ?_
                      refine W.widen (k := 0) (n := 0) (Nat.le_of_ble_eq_true rfl) (Nat.le_of_ble_eq_true rfl) ?_
                      exact W.zret (v := 0) hx hb hr rfl (fun t ht9 hW9 => ⟨⟨0, (), rfl, (Or.inl ⟨rfl, (Or.inr (Or.inr (Or.inr (Or.inr (Or.inr (Or.inr (Or.inr (Or.inr (Or.inl ⟨c_40, c_41, c_42, c_44, c_45, c_48, c_49⟩)))))))))⟩), trivial⟩, hS.F ht9⟩) hS.2.2 dX5_isFault_42 hlocks
                    · refine lv_iload_n hx hb dX5_isFault_36 rfl (lv_at hl 1 rfl) ?_
                      refine lv_iload_n hx hb dX5_isFault_37 rfl (lv_at hl 2 rfl) ?_
                      refine lv_icmp_ne (tgt := 43) hx hb dX5_isFault_38 (by decide) (fun c_50 => ?_) (fun c_50 => ?_)
                      · refine lv_iload_n hx hb dX5_isFault_43 rfl (lv_at hl 0 rfl) ?_
                        refine lv_bipush (v := 97) hx hb dX5_isFault_44 (by decide) ?_
                        refine lv_icmp_eq (tgt := 60) hx hb dX5_isFault_46 (by decide) (fun c_51 => ?_) (fun c_51 => ?_)
                        · exact absurd (c_42.symm.trans c_51) (by decide)
                        · refine lv_iload_n hx hb dX5_isFault_49 rfl (lv_at hl 3 rfl) ?_
                          refine lv_if_eq (tgt := 60) hx hb dX5_isFault_50 (by decide) (fun c_52 => ?_) (fun c_52 => ?_)
                          · refine lv_iload_n hx hb dX5_isFault_60 rfl (lv_at hl 0 rfl) ?_
                            refine lv_bipush (v := 99) hx hb dX5_isFault_61 (by decide) ?_
                            refine lv_icmp_ne (tgt := 77) hx hb dX5_isFault_63 (by decide) (fun c_53 => ?_) (fun c_53 => ?_)
                            · exact absurd c_42 c_53
                            · refine lv_iload hx hb dX5_isFault_66 (lv_at hl 4 rfl) ?_
                              refine lv_if_eq (tgt := 77) hx hb dX5_isFault_68 (by decide) (fun c_54 => ?_) (fun c_54 => ?_)
                              · refine lv_iconst (v := 1) hx hb dX5_isFault_77 (by decide) ?_
                                refine lv_goto (tgt := 82) hx hb dX5_isFault_78 (by decide) ?_
                                refine W.widen (k := 0) (n := 0) (Nat.le_of_ble_eq_true rfl) (Nat.le_of_ble_eq_true rfl) ?_
                                exact W.zret (v := 1) hx hb hr rfl (fun t ht9 hW9 => ⟨⟨1, (), rfl, (Or.inr ⟨rfl, (Or.inr (Or.inr (Or.inr (Or.inr (Or.inl ⟨c_40, c_41, c_42, c_44, c_45, c_48, c_49, c_50, c_51, c_52, c_54⟩)))))⟩), trivial⟩, hS.F ht9⟩) hS.2.2 dX5_isFault_82 hlocks
                              · refine lv_iload hx hb dX5_isFault_71 (lv_at hl 4 rfl) ?_
                                refine lv_iconst (v := 1) hx hb dX5_isFault_73 (by decide) ?_
                                refine lv_icmp_ne (tgt := 81) hx hb dX5_isFault_74 (by decide) (fun c_55 => ?_) (fun c_55 => ?_)
                                · refine lv_iconst (v := 0) hx hb dX5_isFault_81 (by decide) ?_
                                  refine W.widen (k := 0) (n := 0) (Nat.le_of_ble_eq_true rfl) (Nat.le_of_ble_eq_true rfl) ?_
                                  exact W.zret (v := 0) hx hb hr rfl (fun t ht9 hW9 => ⟨⟨0, (), rfl, (Or.inl ⟨rfl, (Or.inr (Or.inr (Or.inr (Or.inr (Or.inr (Or.inr (Or.inr (Or.inr (Or.inr (Or.inl ⟨c_40, c_41, c_42, c_44, c_45, c_48, c_49, c_50, c_51, c_52, c_54, c_55⟩))))))))))⟩), trivial⟩, hS.F ht9⟩) hS.2.2 dX5_isFault_82 hlocks
                                · refine lv_iconst (v := 1) hx hb dX5_isFault_77 (by decide) ?_
                                  refine lv_goto (tgt := 82) hx hb dX5_isFault_78 (by decide) ?_
                                  refine W.widen (k := 0) (n := 0) (Nat.le_of_ble_eq_true rfl) (Nat.le_of_ble_eq_true rfl) ?_
                                  exact W.zret (v := 1) hx hb hr rfl (fun t ht9 hW9 => ⟨⟨1, (), rfl, (Or.inr ⟨rfl, (Or.inr (Or.inr (Or.inr (Or.inr (Or.inr (Or.inl ⟨c_40, c_41, c_42, c_44, c_45, c_48, c_49, c_50, c_51, c_52, c_54, c_55⟩))))))⟩), trivial⟩, hS.F ht9⟩) hS.2.2 dX5_isFault_82 hlocks
                          · refine lv_iload_n hx hb dX5_isFault_53 rfl (lv_at hl 3 rfl) ?_
                            refine lv_iconst (v := 1) hx hb dX5_isFault_54 (by decide) ?_
                            refine lv_icmp_eq (tgt := 60) hx hb dX5_isFault_55 (by decide) (fun c_56 => ?_) (fun c_56 => ?_)
                            · refine lv_iload_n hx hb dX5_isFault_60 rfl (lv_at hl 0 rfl) ?_
                              refine lv_bipush (v := 99) hx hb dX5_isFault_61 (by decide) ?_
                              refine lv_icmp_ne (tgt := 77) hx hb dX5_isFault_63 (by decide) (fun c_57 => ?_) (fun c_57 => ?_)
                              · exact absurd c_42 c_57
                              · refine lv_iload hx hb dX5_isFault_66 (lv_at hl 4 rfl) ?_
                                refine lv_if_eq (tgt := 77) hx hb dX5_isFault_68 (by decide) (fun c_58 => ?_) (fun c_58 => ?_)
                                · refine lv_iconst (v := 1) hx hb dX5_isFault_77 (by decide) ?_
                                  refine lv_goto (tgt := 82) hx hb dX5_isFault_78 (by decide) ?_
                                  refine W.widen (k := 0) (n := 0) (Nat.le_of_ble_eq_true rfl) (Nat.le_of_ble_eq_true rfl) ?_
                                  exact W.zret (v := 1) hx hb hr rfl (fun t ht9 hW9 => ⟨⟨1, (), rfl, (Or.inr ⟨rfl, (Or.inr (Or.inr (Or.inr (Or.inr (Or.inr (Or.inr (Or.inl ⟨c_40, c_41, c_42, c_44, c_45, c_48, c_49, c_50, c_51, c_52, c_56, c_58⟩)))))))⟩), trivial⟩, hS.F ht9⟩) hS.2.2 dX5_isFault_82 hlocks
                                · refine lv_iload hx hb dX5_isFault_71 (lv_at hl 4 rfl) ?_
                                  refine lv_iconst (v := 1) hx hb dX5_isFault_73 (by decide) ?_
                                  refine lv_icmp_ne (tgt := 81) hx hb dX5_isFault_74 (by decide) (fun c_59 => ?_) (fun c_59 => ?_)
                                  · refine lv_iconst (v := 0) hx hb dX5_isFault_81 (by decide) ?_
                                    refine W.widen (k := 0) (n := 0) (Nat.le_of_ble_eq_true rfl) (Nat.le_of_ble_eq_true rfl) ?_
                                    exact W.zret (v := 0) hx hb hr rfl (fun t ht9 hW9 => ⟨⟨0, (), rfl, (Or.inl ⟨rfl, (Or.inr (Or.inr (Or.inr (Or.inr (Or.inr (Or.inr (Or.inr (Or.inr (Or.inr (Or.inr (Or.inl ⟨c_40, c_41, c_42, c_44, c_45, c_48, c_49, c_50, c_51, c_52, c_56, c_58, c_59⟩)))))))))))⟩), trivial⟩, hS.F ht9⟩) hS.2.2 dX5_isFault_82 hlocks
                                  · refine lv_iconst (v := 1) hx hb dX5_isFault_77 (by decide) ?_
                                    refine lv_goto (tgt := 82) hx hb dX5_isFault_78 (by decide) ?_
                                    refine W.widen (k := 0) (n := 0) (Nat.le_of_ble_eq_true rfl) (Nat.le_of_ble_eq_true rfl) ?_
                                    exact W.zret (v := 1) hx hb hr rfl (fun t ht9 hW9 => ⟨⟨1, (), rfl, (Or.inr ⟨rfl, (Or.inr (Or.inr (Or.inr (Or.inr (Or.inr (Or.inr (Or.inr (Or.inl ⟨c_40, c_41, c_42, c_44, c_45, c_48, c_49, c_50, c_51, c_52, c_56, c_58, c_59⟩))))))))⟩), trivial⟩, hS.F ht9⟩) hS.2.2 dX5_isFault_82 hlocks
                            · refine lv_iconst (v := 0) hx hb dX5_isFault_58 (by decide) ?_
                              refine W.widen (k := 0) (n := 0) (Nat.le_of_ble_eq_true rfl) (Nat.le_of_ble_eq_true rfl) ?_
                              exact W.zret (v := 0) hx hb hr rfl (fun t ht9 hW9 => ⟨⟨0, (), rfl, (Or.inl ⟨rfl, (Or.inr (Or.inr (Or.inr (Or.inr (Or.inr (Or.inr (Or.inr (Or.inr (Or.inr (Or.inr (Or.inr (Or.inl ⟨c_40, c_41, c_42, c_44, c_45, c_48, c_49, c_50, c_51, c_52, c_56⟩))))))))))))⟩), trivial⟩, hS.F ht9⟩) hS.2.2 dX5_isFault_59 hlocks
                      · refine lv_iconst (v := 0) hx hb dX5_isFault_41 (by decide) ?_
                        refine W.widen (k := 0) (n := 0) (Nat.le_of_ble_eq_true rfl) (Nat.le_of_ble_eq_true rfl) ?_
                        exact W.zret (v := 0) hx hb hr rfl (fun t ht9 hW9 => ⟨⟨0, (), rfl, (Or.inl ⟨rfl, (Or.inr (Or.inr (Or.inr (Or.inr (Or.inr (Or.inr (Or.inr (Or.inr (Or.inr (Or.inr (Or.inr (Or.inr (Or.inl ⟨c_40, c_41, c_42, c_44, c_45, c_48, c_49, c_50⟩)))))))))))))⟩), trivial⟩, hS.F ht9⟩) hS.2.2 dX5_isFault_42 hlocks
              · obtain ⟨c_60, c_61⟩ := hw
                exact absurd c_42 c_60
              · obtain ⟨c_62, c_63, c_64⟩ := hw
                exact absurd c_42 c_62
            · obtain ⟨rfl, hw⟩ := hw
              obtain ⟨c_65, c_66, c_67⟩ := hw
              exact absurd c_42 c_65
          · refine lv_iconst (v := 0) hx hb dX5_isFault_17 (by decide) ?_
            refine W.widen (k := 0) (n := 0) (Nat.le_of_ble_eq_true rfl) (Nat.le_of_ble_eq_true rfl) ?_
            exact W.zret (v := 0) hx hb hr rfl (fun t ht9 hW9 => ⟨⟨0, (), rfl, (Or.inl ⟨rfl, (Or.inr (Or.inr (Or.inr (Or.inr (Or.inr (Or.inr (Or.inr (Or.inr (Or.inr (Or.inr (Or.inr (Or.inr (Or.inr (Or.inl ⟨c_40, c_41, c_42, c_44, c_45⟩))))))))))))))⟩), trivial⟩, hS.F ht9⟩) hS.2.2 dX5_isFault_18 hlocks
    · obtain ⟨c_68, c_69, c_70, c_71⟩ := hw
      refine lv_if_eq (tgt := 17) hx hb dX5_isFault_4 (by decide) (fun c_72 => ?_) (fun c_72 => ?_)
      · exact absurd c_72 (by decide)
      · refine lv_iload_n hx hb dX5_isFault_7 rfl (lv_at hl 1 rfl) ?_
        refine lv_if_lt (tgt := 17) hx hb dX5_isFault_8 (by decide) (fun c_73 => ?_) (fun c_73 => ?_)
        · refine lv_iconst (v := 0) hx hb dX5_isFault_17 (by decide) ?_
          refine W.widen (k := 0) (n := 0) (Nat.le_of_ble_eq_true rfl) (Nat.le_of_ble_eq_true rfl) ?_
          exact W.zret (v := 0) hx hb hr rfl (fun t ht9 hW9 => ⟨⟨0, (), rfl, (Or.inl ⟨rfl, (Or.inr (Or.inr (Or.inr (Or.inr (Or.inr (Or.inr (Or.inr (Or.inr (Or.inr (Or.inr (Or.inr (Or.inr (Or.inr (Or.inr (Or.inl ⟨c_68, c_69, c_70, c_71, c_73⟩)))))))))))))))⟩), trivial⟩, hS.F ht9⟩) hS.2.2 dX5_isFault_18 hlocks
        · refine lv_iload_n hx hb dX5_isFault_11 rfl (lv_at hl 1 rfl) ?_
          refine lv_bipush (v := 8) hx hb dX5_isFault_12 (by decide) ?_
          refine lv_icmp_lt (tgt := 19) hx hb dX5_isFault_14 (by decide) (fun c_74 => ?_) (fun c_74 => ?_)
          · refine lv_iload_n hx hb dX5_isFault_19 rfl (lv_at hl 0 rfl) ?_
            have hPc : va_P D vwCl [] _ := (ro0 hP0 hS).sub (ws' := []) [] rfl
            have hDc : va_D (fun q => z0 ≤ q) [] := hD0.pick (ws' := []) [] (by decide) rfl
            have hFc := AnA (ws := []) hS.1
            refine va_calli (va_runS (As := [.int p0]) (rest := []) ⟨hx, hb, hml, hown, ht⟩ (k_X5_isOfTwoCells l D g z0 _ a p0 hc_p0) (va_cwS 1 ht (gS w_260 w_262 w_220 w_261) rfl rfl rfl (by decide +kernel) (le2 rfl rfl)) ⟨PP.blind, PP.mk' hK hZ hz hAz hS hPc hDc⟩ rfl rfl hl.1 rfl (lv_room (Nat.le_of_ble_eq_true rfl)) dX5_isFault_20 (le2 rfl rfl)) hS (fun q _ h => hFc q h) hFc (fun r u t H locs ht1 hvm hw hB hz1 hk1 hS => ?_)
            rcases hw with hw | hw
            · obtain ⟨rfl, hw⟩ := hw
              rcases hw with hw | hw | hw
              · have c_75 := hw
                exact absurd c_75 c_70
              · obtain ⟨c_76, c_77⟩ := hw
                refine lv_if_eq (tgt := 43) hx hb dX5_isFault_23 (by decide) (fun c_78 => ?_) (fun c_78 => ?_)
                · exact absurd c_78 (by decide)
                · refine lv_iload_n hx hb dX5_isFault_26 rfl (lv_at hl 2 rfl) ?_
                  refine lv_if_lt (tgt := 41) hx hb dX5_isFault_27 (by decide) (fun c_79 => ?_) (fun c_79 => ?_)
                  · refine lv_iconst (v := 0) hx hb dX5_isFault_41 (by decide) ?_
                    refine W.widen (k := 0) (n := 0) (Nat.le_of_ble_eq_true rfl) (Nat.le_of_ble_eq_true rfl) ?_
                    exact W.zret (v := 0) hx hb hr rfl (fun t ht9 hW9 => ⟨⟨0, (), rfl, (Or.inl ⟨rfl, (Or.inr (Or.inr (Or.inr (Or.inr (Or.inr (Or.inr (Or.inr (Or.inr (Or.inr (Or.inr (Or.inr (Or.inr (Or.inr (Or.inr (Or.inr (Or.inl ⟨c_68, c_69, c_70, c_71, c_73, c_74, c_79⟩))))))))))))))))⟩), trivial⟩, hS.F ht9⟩) hS.2.2 dX5_isFault_42 hlocks
                  · refine lv_iload_n hx hb dX5_isFault_30 rfl (lv_at hl 2 rfl) ?_
                    refine lv_bipush (v := 8) hx hb dX5_isFault_31 (by decide) ?_
                    refine lv_icmp_ge (tgt := 41) hx hb dX5_isFault_33 (by decide) (fun c_80 => ?_) (fun c_80 => ?_)
                    · refine lv_iconst (v := 0) hx hb dX5_isFault_41 (by decide) ?_
                      refine W.widen (k := 0) (n := 0) (Nat.le_of_ble_eq_true rfl) (Nat.le_of_ble_eq_true rfl) ?_
                      exact W.zret (v := 0) hx hb hr rfl (fun t ht9 hW9 => ⟨⟨0, (), rfl, (Or.inl ⟨rfl, (Or.inr (Or.inr (Or.inr (Or.inr (Or.inr (Or.inr (Or.inr (Or.inr (Or.inr (Or.inr (Or.inr (Or.inr (Or.inr (Or.inr (Or.inr (Or.inr (Or.inl ⟨c_68, c_69, c_70, c_71, c_73, c_74, c_79, c_80⟩)))))))))))))))))⟩), trivial⟩, hS.F ht9⟩) hS.2.2 dX5_isFault_42 hlocks
                    · refine lv_iload_n hx hb dX5_isFault_36 rfl (lv_at hl 1 rfl) ?_
                      refine lv_iload_n hx hb dX5_isFault_37 rfl (lv_at hl 2 rfl) ?_
                      refine lv_icmp_ne (tgt := 43) hx hb dX5_isFault_38 (by decide) (fun c_81 => ?_) (fun c_81 => ?_)
                      · refine lv_iload_n hx hb dX5_isFault_43 rfl (lv_at hl 0 rfl) ?_
                        refine lv_bipush (v := 97) hx hb dX5_isFault_44 (by decide) ?_
                        refine lv_icmp_eq (tgt := 60) hx hb dX5_isFault_46 (by decide) (fun c_82 => ?_) (fun c_82 => ?_)
                        · exact absurd (c_71.symm.trans c_82) (by decide)
                        · refine lv_iload_n hx hb dX5_isFault_49 rfl (lv_at hl 3 rfl) ?_
                          refine lv_if_eq (tgt := 60) hx hb dX5_isFault_50 (by decide) (fun c_83 => ?_) (fun c_83 => ?_)
                          · refine lv_iload_n hx hb dX5_isFault_60 rfl (lv_at hl 0 rfl) ?_
                            refine lv_bipush (v := 99) hx hb dX5_isFault_61 (by decide) ?_
                            refine lv_icmp_ne (tgt := 77) hx hb dX5_isFault_63 (by decide) (fun c_84 => ?_) (fun c_84 => ?_)
                            · refine lv_iconst (v := 1) hx hb dX5_isFault_77 (by decide) ?_
                              refine lv_goto (tgt := 82) hx hb dX5_isFault_78 (by decide) ?_
                              refine W.widen (k := 0) (n := 0) (Nat.le_of_ble_eq_true rfl) (Nat.le_of_ble_eq_true rfl) ?_
                              exact W.zret (v := 1) hx hb hr rfl (fun t ht9 hW9 => ⟨⟨1, (), rfl, (Or.inr ⟨rfl, (Or.inr (Or.inr (Or.inr (Or.inr (Or.inr (Or.inr (Or.inr (Or.inr (Or.inl ⟨c_68, c_69, c_70, c_71, c_73, c_74, c_79, c_80, c_81, c_82, c_83⟩)))))))))⟩), trivial⟩, hS.F ht9⟩) hS.2.2 dX5_isFault_82 hlocks
                            · exact absurd c_84 c_70
                          · refine lv_iload_n hx hb dX5_isFault_53 rfl (lv_at hl 3 rfl) ?_
                            refine lv_iconst (v := 1) hx hb dX5_isFault_54 (by decide) ?_
                            refine lv_icmp_eq (tgt := 60) hx hb dX5_isFault_55 (by decide) (fun c_85 => ?_) (fun c_85 => ?_)
                            · refine lv_iload_n hx hb dX5_isFault_60 rfl (lv_at hl 0 rfl) ?_
                              refine lv_bipush (v := 99) hx hb dX5_isFault_61 (by decide) ?_
                              refine lv_icmp_ne (tgt := 77) hx hb dX5_isFault_63 (by decide) (fun c_86 => ?_) (fun c_86 => ?_)
                              · refine lv_iconst (v := 1) hx hb dX5_isFault_77 (by decide) ?_
                                refine lv_goto (tgt := 82) hx hb dX5_isFault_78 (by decide) ?_
                                refine W.widen (k := 0) (n := 0) (Nat.le_of_ble_eq_true rfl) (Nat.le_of_ble_eq_true rfl) ?_
                                exact W.zret (v := 1) hx hb hr rfl (fun t ht9 hW9 => ⟨⟨1, (), rfl, (Or.inr ⟨rfl, (Or.inr (Or.inr (Or.inr (Or.inr (Or.inr (Or.inr (Or.inr (Or.inr (Or.inr (Or.inl ⟨c_68, c_69, c_70, c_71, c_73, c_74, c_79, c_80, c_81, c_82, c_83, c_85⟩))))))))))⟩), trivial⟩, hS.F ht9⟩) hS.2.2 dX5_isFault_82 hlocks
                              · exact absurd c_86 c_70
                            · refine lv_iconst (v := 0) hx hb dX5_isFault_58 (by decide) ?_
                              refine W.widen (k := 0) (n := 0) (Nat.le_of_ble_eq_true rfl) (Nat.le_of_ble_eq_true rfl) ?_
                              exact W.zret (v := 0) hx hb hr rfl (fun t ht9 hW9 => ⟨⟨0, (), rfl, (Or.inl ⟨rfl, (Or.inr (Or.inr (Or.inr (Or.inr (Or.inr (Or.inr (Or.inr (Or.inr (Or.inr (Or.inr (Or.inr (Or.inr (Or.inr (Or.inr (Or.inr (Or.inr (Or.inr (Or.inl ⟨c_68, c_69, c_70, c_71, c_73, c_74, c_79, c_80, c_81, c_82, c_83, c_85⟩))))))))))))))))))⟩), trivial⟩, hS.F ht9⟩) hS.2.2 dX5_isFault_59 hlocks
                      · refine lv_iconst (v := 0) hx hb dX5_isFault_41 (by decide) ?_
                        refine W.widen (k := 0) (n := 0) (Nat.le_of_ble_eq_true rfl) (Nat.le_of_ble_eq_true rfl) ?_
                        exact W.zret (v := 0) hx hb hr rfl (fun t ht9 hW9 => ⟨⟨0, (), rfl, (Or.inl ⟨rfl, (Or.inr (Or.inr (Or.inr (Or.inr (Or.inr (Or.inr (Or.inr (Or.inr (Or.inr (Or.inr (Or.inr (Or.inr (Or.inr (Or.inr (Or.inr (Or.inr (Or.inr (Or.inr (Or.inl ⟨c_68, c_69, c_70, c_71, c_73, c_74, c_79, c_80, c_81⟩)))))))))))))))))))⟩), trivial⟩, hS.F ht9⟩) hS.2.2 dX5_isFault_42 hlocks
              · obtain ⟨c_87, c_88, c_89⟩ := hw
                exact absurd c_71 c_88
            · obtain ⟨rfl, hw⟩ := hw
              obtain ⟨c_90, c_91, c_92⟩ := hw
              exact absurd c_71 c_91
          · refine lv_iconst (v := 0) hx hb dX5_isFault_17 (by decide) ?_
            refine W.widen (k := 0) (n := 0) (Nat.le_of_ble_eq_true rfl) (Nat.le_of_ble_eq_true rfl) ?_
            exact W.zret (v := 0) hx hb hr rfl (fun t ht9 hW9 => ⟨⟨0, (), rfl, (Or.inl ⟨rfl, (Or.inr (Or.inr (Or.inr (Or.inr (Or.inr (Or.inr (Or.inr (Or.inr (Or.inr (Or.inr (Or.inr (Or.inr (Or.inr (Or.inr (Or.inr (Or.inr (Or.inr (Or.inr (Or.inr (Or.inl ⟨c_68, c_69, c_70, c_71, c_73, c_74⟩))))))))))))))))))))⟩), trivial⟩, hS.F ht9⟩) hS.2.2 dX5_isFault_18 hlocks
    · obtain ⟨c_93, c_94, c_95, c_96, c_97⟩ := hw
      refine lv_if_eq (tgt := 17) hx hb dX5_isFault_4 (by decide) (fun c_98 => ?_) (fun c_98 => ?_)
      · exact absurd c_98 (by decide)
      · refine lv_iload_n hx hb dX5_isFault_7 rfl (lv_at hl 1 rfl) ?_
        refine lv_if_lt (tgt := 17) hx hb dX5_isFault_8 (by decide) (fun c_99 => ?_) (fun c_99 => ?_)
        · refine lv_iconst (v := 0) hx hb dX5_isFault_17 (by decide) ?_
          refine W.widen (k := 0) (n := 0) (Nat.le_of_ble_eq_true rfl) (Nat.le_of_ble_eq_true rfl) ?_
          exact W.zret (v := 0) hx hb hr rfl (fun t ht9 hW9 => ⟨⟨0, (), rfl, (Or.inl ⟨rfl, (Or.inr (Or.inr (Or.inr (Or.inr (Or.inr (Or.inr (Or.inr (Or.inr (Or.inr (Or.inr (Or.inr (Or.inr (Or.inr (Or.inr (Or.inr (Or.inr (Or.inr (Or.inr (Or.inr (Or.inr (Or.inl ⟨c_93, c_94, c_95, c_96, c_97, c_99⟩)))))))))))))))))))))⟩), trivial⟩, hS.F ht9⟩) hS.2.2 dX5_isFault_18 hlocks
        · refine lv_iload_n hx hb dX5_isFault_11 rfl (lv_at hl 1 rfl) ?_
          refine lv_bipush (v := 8) hx hb dX5_isFault_12 (by decide) ?_
          refine lv_icmp_lt (tgt := 19) hx hb dX5_isFault_14 (by decide) (fun c_100 => ?_) (fun c_100 => ?_)
          · refine lv_iload_n hx hb dX5_isFault_19 rfl (lv_at hl 0 rfl) ?_
            have hPc : va_P D vwCl [] _ := (ro0 hP0 hS).sub (ws' := []) [] rfl
            have hDc : va_D (fun q => z0 ≤ q) [] := hD0.pick (ws' := []) [] (by decide) rfl
            have hFc := AnA (ws := []) hS.1
            refine va_calli (va_runS (As := [.int p0]) (rest := []) ⟨hx, hb, hml, hown, ht⟩ (k_X5_isOfTwoCells l D g z0 _ a p0 hc_p0) (va_cwS 1 ht (gS w_260 w_262 w_220 w_261) rfl rfl rfl (by decide +kernel) (le2 rfl rfl)) ⟨PP.blind, PP.mk' hK hZ hz hAz hS hPc hDc⟩ rfl rfl hl.1 rfl (lv_room (Nat.le_of_ble_eq_true rfl)) dX5_isFault_20 (le2 rfl rfl)) hS (fun q _ h => hFc q h) hFc (fun r u t H locs ht1 hvm hw hB hz1 hk1 hS => ?_)
            rcases hw with hw | hw
            · obtain ⟨rfl, hw⟩ := hw
              rcases hw with hw | hw | hw
              · have c_101 := hw
                exact absurd c_101 c_95
              · obtain ⟨c_102, c_103⟩ := hw
                exact absurd c_103 c_96
              · obtain ⟨c_104, c_105, c_106⟩ := hw
                refine lv_if_eq (tgt := 43) hx hb dX5_isFault_23 (by decide) (fun c_107 => ?_) (fun c_107 => ?_)
                · exact absurd c_107 (by decide)
                · refine lv_iload_n hx hb dX5_isFault_26 rfl (lv_at hl 2 rfl) ?_
                  refine lv_if_lt (tgt := 41) hx hb dX5_isFault_27 (by decide) (fun c_108 => ?_) (fun c_108 => ?_)
                  · refine lv_iconst (v := 0) hx hb dX5_isFault_41 (by decide) ?_
                    refine W.widen (k := 0) (n := 0) (Nat.le_of_ble_eq_true rfl) (Nat.le_of_ble_eq_true rfl) ?_
                    exact W.zret (v := 0) hx hb hr rfl (fun t ht9 hW9 => ⟨⟨0, (), rfl, (Or.inl ⟨rfl, (Or.inr (Or.inr (Or.inr (Or.inr (Or.inr (Or.inr (Or.inr (Or.inr (Or.inr (Or.inr (Or.inr (Or.inr (Or.inr (Or.inr (Or.inr (Or.inr (Or.inr (Or.inr (Or.inr (Or.inr (Or.inr (Or.inl ⟨c_93, c_94, c_95, c_96, c_97, c_99, c_100, c_108⟩))))))))))))))))))))))⟩), trivial⟩, hS.F ht9⟩) hS.2.2 dX5_isFault_42 hlocks
                  · refine lv_iload_n hx hb dX5_isFault_30 rfl (lv_at hl 2 rfl) ?_
                    refine lv_bipush (v := 8) hx hb dX5_isFault_31 (by decide) ?_
                    refine lv_icmp_ge (tgt := 41) hx hb dX5_isFault_33 (by decide) (fun c_109 => ?_) (fun c_109 => ?_)
                    · refine lv_iconst (v := 0) hx hb dX5_isFault_41 (by decide) ?_
                      refine W.widen (k := 0) (n := 0) (Nat.le_of_ble_eq_true rfl) (Nat.le_of_ble_eq_true rfl) ?_
                      exact W.zret (v := 0) hx hb hr rfl (fun t ht9 hW9 => ⟨⟨0, (), rfl, (Or.inl ⟨rfl, (Or.inr (Or.inr (Or.inr (Or.inr (Or.inr (Or.inr (Or.inr (Or.inr (Or.inr (Or.inr (Or.inr (Or.inr (Or.inr (Or.inr (Or.inr (Or.inr (Or.inr (Or.inr (Or.inr (Or.inr (Or.inr (Or.inr (Or.inl ⟨c_93, c_94, c_95, c_96, c_97, c_99, c_100, c_108, c_109⟩)))))))))))))))))))))))⟩), trivial⟩, hS.F ht9⟩) hS.2.2 dX5_isFault_42 hlocks
                    · refine lv_iload_n hx hb dX5_isFault_36 rfl (lv_at hl 1 rfl) ?_
                      refine lv_iload_n hx hb dX5_isFault_37 rfl (lv_at hl 2 rfl) ?_
                      refine lv_icmp_ne (tgt := 43) hx hb dX5_isFault_38 (by decide) (fun c_110 => ?_) (fun c_110 => ?_)
                      · refine lv_iload_n hx hb dX5_isFault_43 rfl (lv_at hl 0 rfl) ?_
                        refine lv_bipush (v := 97) hx hb dX5_isFault_44 (by decide) ?_
                        refine lv_icmp_eq (tgt := 60) hx hb dX5_isFault_46 (by decide) (fun c_111 => ?_) (fun c_111 => ?_)
                        · refine lv_iload_n hx hb dX5_isFault_60 rfl (lv_at hl 0 rfl) ?_
                          refine lv_bipush (v := 99) hx hb dX5_isFault_61 (by decide) ?_
                          refine lv_icmp_ne (tgt := 77) hx hb dX5_isFault_63 (by decide) (fun c_112 => ?_) (fun c_112 => ?_)
                          · refine lv_iconst (v := 1) hx hb dX5_isFault_77 (by decide) ?_
                            refine lv_goto (tgt := 82) hx hb dX5_isFault_78 (by decide) ?_
                            refine W.widen (k := 0) (n := 0) (Nat.le_of_ble_eq_true rfl) (Nat.le_of_ble_eq_true rfl) ?_
                            exact W.zret (v := 1) hx hb hr rfl (fun t ht9 hW9 => ⟨⟨1, (), rfl, (Or.inr ⟨rfl, (Or.inr (Or.inr (Or.inr (Or.inr (Or.inr (Or.inr (Or.inr (Or.inr (Or.inr (Or.inr ⟨c_93, c_94, c_95, c_96, c_97, c_99, c_100, c_108, c_109, c_110⟩))))))))))⟩), trivial⟩, hS.F ht9⟩) hS.2.2 dX5_isFault_82 hlocks
                          · exact absurd c_112 c_95
                        · exact absurd c_97 c_111
                      · refine lv_iconst (v := 0) hx hb dX5_isFault_41 (by decide) ?_
                        refine W.widen (k := 0) (n := 0) (Nat.le_of_ble_eq_true rfl) (Nat.le_of_ble_eq_true rfl) ?_
                        exact W.zret (v := 0) hx hb hr rfl (fun t ht9 hW9 => ⟨⟨0, (), rfl, (Or.inl ⟨rfl, (Or.inr (Or.inr (Or.inr (Or.inr (Or.inr (Or.inr (Or.inr (Or.inr (Or.inr (Or.inr (Or.inr (Or.inr (Or.inr (Or.inr (Or.inr (Or.inr (Or.inr (Or.inr (Or.inr (Or.inr (Or.inr (Or.inr (Or.inr (Or.inl ⟨c_93, c_94, c_95, c_96, c_97, c_99, c_100, c_108, c_109, c_110⟩))))))))))))))))))))))))⟩), trivial⟩, hS.F ht9⟩) hS.2.2 dX5_isFault_42 hlocks
            · obtain ⟨rfl, hw⟩ := hw
              obtain ⟨c_113, c_114, c_115⟩ := hw
              exact absurd c_97 c_115
          · refine lv_iconst (v := 0) hx hb dX5_isFault_17 (by decide) ?_
            refine W.widen (k := 0) (n := 0) (Nat.le_of_ble_eq_true rfl) (Nat.le_of_ble_eq_true rfl) ?_
            exact W.zret (v := 0) hx hb hr rfl (fun t ht9 hW9 => ⟨⟨0, (), rfl, (Or.inl ⟨rfl, (Or.inr (Or.inr (Or.inr (Or.inr (Or.inr (Or.inr (Or.inr (Or.inr (Or.inr (Or.inr (Or.inr (Or.inr (Or.inr (Or.inr (Or.inr (Or.inr (Or.inr (Or.inr (Or.inr (Or.inr (Or.inr (Or.inr (Or.inr (Or.inr (Or.inl ⟨c_93, c_94, c_95, c_96, c_97, c_99, c_100⟩)))))))))))))))))))))))))⟩), trivial⟩, hS.F ht9⟩) hS.2.2 dX5_isFault_18 hlocks
  · obtain ⟨rfl, hw⟩ := hw
    obtain ⟨c_116, c_117, c_118, c_119, c_120⟩ := hw
    refine lv_if_eq (tgt := 17) hx hb dX5_isFault_4 (by decide) (fun c_121 => ?_) (fun c_121 => ?_)
    · refine lv_iconst (v := 0) hx hb dX5_isFault_17 (by decide) ?_
      refine W.widen (k := 0) (n := 0) (Nat.le_of_ble_eq_true rfl) (Nat.le_of_ble_eq_true rfl) ?_
      exact W.zret (v := 0) hx hb hr rfl (fun t ht9 hW9 => ⟨⟨0, (), rfl, (Or.inl ⟨rfl, (Or.inr (Or.inr (Or.inr (Or.inr (Or.inr (Or.inr (Or.inr (Or.inr (Or.inr (Or.inr (Or.inr (Or.inr (Or.inr (Or.inr (Or.inr (Or.inr (Or.inr (Or.inr (Or.inr (Or.inr (Or.inr (Or.inr (Or.inr (Or.inr (Or.inr ⟨c_116, c_117, c_118, c_119, c_120⟩)))))))))))))))))))))))))⟩), trivial⟩, hS.F ht9⟩) hS.2.2 dX5_isFault_18 hlocks
    · exact absurd c_121 (by decide)
set_option maxHeartbeats 4000000 in
set_option maxRecDepth 100000 in
theorem k_X11_marchFinds (l : Launch) (hfl : l.stackTraces = false) (D : va_G) (g : Nat → ClassId) (z0 sz : Nat) (a : Nat → Nat) (p0 : Int32) (p1 : Int32) (p2 : Int32) (p3 : Int32) (p4 : Int32) (hc_p0 : isC p0) : vx_Met l yX11_marchFinds (.code yX11_marchFinds cX11_marchFinds 6 (some .boolean) :: TG) (rmk 6 1 6 81) (va_Pc [.ref (a 0), .int p0, .int p1, .int p2, .int p3, .int p4] (PP D g z0 sz [((a 0), f_x a), ((a 9), f_memory a)])) (va_Qi (fun (r : Int32) (u : Unit) => False) (fun (_ : Unit) (_ : State) => True) (va_A [((a 0), f_x a), ((a 9), f_memory a)] sz)) (vx_X (fun _ : Unit => True) (fun E _ _ => (E = "java/lang/IllegalArgumentException" ∧ (((p0 = 115) ∧ (p1 < 0)) ∨ ((p0 = 115) ∧ (¬ p1 < 0) ∧ (p1 < 8) ∧ (¬ p0 = 99) ∧ (¬ p0 = 105) ∧ (¬ p0 = 97) ∧ (¬ p3 = 0) ∧ (¬ p3 = 1)) ∨ ((p0 = 115) ∧ (¬ p1 < 0) ∧ (¬ p1 < 8)) ∨ ((¬ p0 = 115) ∧ (p0 = 116) ∧ (p1 < 0)) ∨ ((¬ p0 = 115) ∧ (p0 = 116) ∧ (¬ p1 < 0) ∧ (p1 < 8) ∧ (¬ p0 = 99) ∧ (¬ p0 = 105) ∧ (¬ p0 = 97) ∧ (¬ p3 = 0) ∧ (¬ p3 = 1)) ∨ ((¬ p0 = 115) ∧ (p0 = 116) ∧ (¬ p1 < 0) ∧ (¬ p1 < 8)) ∨ ((¬ p0 = 115) ∧ (¬ p0 = 116) ∧ (p0 = 99) ∧ (p1 < 0)) ∨ ((¬ p0 = 115) ∧ (¬ p0 = 116) ∧ (p0 = 99) ∧ (¬ p1 < 0) ∧ (p1 < 8) ∧ (p2 < 0)) ∨ ((¬ p0 = 115) ∧ (¬ p0 = 116) ∧ (p0 = 99) ∧ (¬ p1 < 0) ∧ (p1 < 8) ∧ (¬ p2 < 0) ∧ ((8 : Int32) ≤ p2)) ∨ ((¬ p0 = 115) ∧ (¬ p0 = 116) ∧ (p0 = 99) ∧ (¬ p1 < 0) ∧ (p1 < 8) ∧ (¬ p2 < 0) ∧ (¬ (8 : Int32) ≤ p2) ∧ (¬ p1 = p2) ∧ (¬ p0 = 97) ∧ (p3 = 0) ∧ (¬ p4 = 0) ∧ (¬ p4 = 1)) ∨ ((¬ p0 = 115) ∧ (¬ p0 = 116) ∧ (p0 = 99) ∧ (¬ p1 < 0) ∧ (p1 < 8) ∧ (¬ p2 < 0) ∧ (¬ (8 : Int32) ≤ p2) ∧ (¬ p1 = p2) ∧ (¬ p0 = 97) ∧ (¬ p3 = 0) ∧ (p3 = 1) ∧ (¬ p4 = 0) ∧ (¬ p4 = 1)) ∨ ((¬ p0 = 115) ∧ (¬ p0 = 116) ∧ (p0 = 99) ∧ (¬ p1 < 0) ∧ (p1 < 8) ∧ (¬ p2 < 0) ∧ (¬ (8 : Int32) ≤ p2) ∧ (¬ p1 = p2) ∧ (¬ p0 = 97) ∧ (¬ p3 = 0) ∧ (¬ p3 = 1)) ∨ ((¬ p0 = 115) ∧ (¬ p0 = 116) ∧ (p0 = 99) ∧ (¬ p1 < 0) ∧ (p1 < 8) ∧ (¬ p2 < 0) ∧ (¬ (8 : Int32) ≤ p2) ∧ (p1 = p2)) ∨ ((¬ p0 = 115) ∧ (¬ p0 = 116) ∧ (p0 = 99) ∧ (¬ p1 < 0) ∧ (¬ p1 < 8)) ∨ ((¬ p0 = 115) ∧ (¬ p0 = 116) ∧ (¬ p0 = 99) ∧ (p0 = 105) ∧ (p1 < 0)) ∨ ((¬ p0 = 115) ∧ (¬ p0 = 116) ∧ (¬ p0 = 99) ∧ (p0 = 105) ∧ (¬ p1 < 0) ∧ (p1 < 8) ∧ (p2 < 0)) ∨ ((¬ p0 = 115) ∧ (¬ p0 = 116) ∧ (¬ p0 = 99) ∧ (p0 = 105) ∧ (¬ p1 < 0) ∧ (p1 < 8) ∧ (¬ p2 < 0) ∧ ((8 : Int32) ≤ p2)) ∨ ((¬ p0 = 115) ∧ (¬ p0 = 116) ∧ (¬ p0 = 99) ∧ (p0 = 105) ∧ (¬ p1 < 0) ∧ (p1 < 8) ∧ (¬ p2 < 0) ∧ (¬ (8 : Int32) ≤ p2) ∧ (¬ p1 = p2) ∧ (¬ p0 = 97) ∧ (¬ p3 = 0) ∧ (¬ p3 = 1)) ∨ ((¬ p0 = 115) ∧ (¬ p0 = 116) ∧ (¬ p0 = 99) ∧ (p0 = 105) ∧ (¬ p1 < 0) ∧ (p1 < 8) ∧ (¬ p2 < 0) ∧ (¬ (8 : Int32) ≤ p2) ∧ (p1 = p2)) ∨ ((¬ p0 = 115) ∧ (¬ p0 = 116) ∧ (¬ p0 = 99) ∧ (p0 = 105) ∧ (¬ p1 < 0) ∧ (¬ p1 < 8)) ∨ ((¬ p0 = 115) ∧ (¬ p0 = 116) ∧ (¬ p0 = 99) ∧ (¬ p0 = 105) ∧ (p0 = 97) ∧ (p1 < 0)) ∨ ((¬ p0 = 115) ∧ (¬ p0 = 116) ∧ (¬ p0 = 99) ∧ (¬ p0 = 105) ∧ (p0 = 97) ∧ (¬ p1 < 0) ∧ (p1 < 8) ∧ (p2 < 0)) ∨ ((¬ p0 = 115) ∧ (¬ p0 = 116) ∧ (¬ p0 = 99) ∧ (¬ p0 = 105) ∧ (p0 = 97) ∧ (¬ p1 < 0) ∧ (p1 < 8) ∧ (¬ p2 < 0) ∧ ((8 : Int32) ≤ p2)) ∨ ((¬ p0 = 115) ∧ (¬ p0 = 116) ∧ (¬ p0 = 99) ∧ (¬ p0 = 105) ∧ (p0 = 97) ∧ (¬ p1 < 0) ∧ (p1 < 8) ∧ (¬ p2 < 0) ∧ (¬ (8 : Int32) ≤ p2) ∧ (p1 = p2)) ∨ ((¬ p0 = 115) ∧ (¬ p0 = 116) ∧ (¬ p0 = 99) ∧ (¬ p0 = 105) ∧ (p0 = 97) ∧ (¬ p1 < 0) ∧ (¬ p1 < 8)) ∨ ((¬ p0 = 115) ∧ (¬ p0 = 116) ∧ (¬ p0 = 99) ∧ (¬ p0 = 105) ∧ (¬ p0 = 97)))) ∨ (E = "java/lang/UnsupportedOperationException" ∧ (((p0 = 115) ∧ (¬ p1 < 0) ∧ (p1 < 8) ∧ (¬ p0 = 99) ∧ (¬ p0 = 105) ∧ (¬ p0 = 97) ∧ (p3 = 0)) ∨ ((p0 = 115) ∧ (¬ p1 < 0) ∧ (p1 < 8) ∧ (¬ p0 = 99) ∧ (¬ p0 = 105) ∧ (¬ p0 = 97) ∧ (¬ p3 = 0) ∧ (p3 = 1)) ∨ ((¬ p0 = 115) ∧ (p0 = 116) ∧ (¬ p1 < 0) ∧ (p1 < 8) ∧ (¬ p0 = 99) ∧ (¬ p0 = 105) ∧ (¬ p0 = 97) ∧ (p3 = 0)) ∨ ((¬ p0 = 115) ∧ (p0 = 116) ∧ (¬ p1 < 0) ∧ (p1 < 8) ∧ (¬ p0 = 99) ∧ (¬ p0 = 105) ∧ (¬ p0 = 97) ∧ (¬ p3 = 0) ∧ (p3 = 1)) ∨ ((¬ p0 = 115) ∧ (¬ p0 = 116) ∧ (p0 = 99) ∧ (¬ p1 < 0) ∧ (p1 < 8) ∧ (¬ p2 < 0) ∧ (¬ (8 : Int32) ≤ p2) ∧ (¬ p1 = p2) ∧ (¬ p0 = 97) ∧ (p3 = 0) ∧ (p4 = 0)) ∨ ((¬ p0 = 115) ∧ (¬ p0 = 116) ∧ (p0 = 99) ∧ (¬ p1 < 0) ∧ (p1 < 8) ∧ (¬ p2 < 0) ∧ (¬ (8 : Int32) ≤ p2) ∧ (¬ p1 = p2) ∧ (¬ p0 = 97) ∧ (p3 = 0) ∧ (¬ p4 = 0) ∧ (p4 = 1)) ∨ ((¬ p0 = 115) ∧ (¬ p0 = 116) ∧ (p0 = 99) ∧ (¬ p1 < 0) ∧ (p1 < 8) ∧ (¬ p2 < 0) ∧ (¬ (8 : Int32) ≤ p2) ∧ (¬ p1 = p2) ∧ (¬ p0 = 97) ∧ (¬ p3 = 0) ∧ (p3 = 1) ∧ (p4 = 0)) ∨ ((¬ p0 = 115) ∧ (¬ p0 = 116) ∧ (p0 = 99) ∧ (¬ p1 < 0) ∧ (p1 < 8) ∧ (¬ p2 < 0) ∧ (¬ (8 : Int32) ≤ p2) ∧ (¬ p1 = p2) ∧ (¬ p0 = 97) ∧ (¬ p3 = 0) ∧ (p3 = 1) ∧ (¬ p4 = 0) ∧ (p4 = 1)) ∨ ((¬ p0 = 115) ∧ (¬ p0 = 116) ∧ (¬ p0 = 99) ∧ (p0 = 105) ∧ (¬ p1 < 0) ∧ (p1 < 8) ∧ (¬ p2 < 0) ∧ (¬ (8 : Int32) ≤ p2) ∧ (¬ p1 = p2) ∧ (¬ p0 = 97) ∧ (p3 = 0)) ∨ ((¬ p0 = 115) ∧ (¬ p0 = 116) ∧ (¬ p0 = 99) ∧ (p0 = 105) ∧ (¬ p1 < 0) ∧ (p1 < 8) ∧ (¬ p2 < 0) ∧ (¬ (8 : Int32) ≤ p2) ∧ (¬ p1 = p2) ∧ (¬ p0 = 97) ∧ (¬ p3 = 0) ∧ (p3 = 1)) ∨ ((¬ p0 = 115) ∧ (¬ p0 = 116) ∧ (¬ p0 = 99) ∧ (¬ p0 = 105) ∧ (p0 = 97) ∧ (¬ p1 < 0) ∧ (p1 < 8) ∧ (¬ p2 < 0) ∧ (¬ (8 : Int32) ≤ p2) ∧ (¬ p1 = p2))))) (va_A [((a 0), f_x a), ((a 9), f_memory a)] sz)) 1 6 (va_A [((a 0), f_x a), ((a 9), f_memory a)] sz) := by
  refine vxm0 (cc := cX11_marchFinds) (n := 6) (by decide) (Nat.le_of_ble_eq_true rfl) ?_
  intro p e s m args below meth c hx hb hr hml htab hown ht hlocks hnm hP0 hD0 hK hZ hsz hz ls hl
  subst hsz
  have hA : ∀ q : Nat, s.heap.size ≤ q → va_A [((a 0), f_x a), ((a 9), f_memory a)] s.heap.size q := Anw
  have hAz : ∀ q, va_A [((a 0), f_x a), ((a 9), f_memory a)] s.heap.size q → z0 ≤ q := Awz hz hD0
  have hS : va_S (va_A [((a 0), f_x a), ((a 9), f_memory a)] s.heap.size) s.heap s.heap [] := va_S.rf
  have hD : va_D (va_A [((a 0), f_x a), ((a 9), f_memory a)] s.heap.size) [((a 0), f_x a), ((a 9), f_memory a)] := hD0.self
  have hP : va_P D vwCl [((a 0), f_x a), ((a 9), f_memory a)] s.heap := hP0
  have hl : lv_has ls 6 [(0, .ref (a 0)), (1, .int p0), (2, .int p1), (3, .int p2), (4, .int p3), (5, .int p4)] := hl
  refine lv_iload_n hx hb dX11_marchFinds_0 rfl (lv_at hl 1 rfl) ?_
  refine lv_iload_n hx hb dX11_marchFinds_1 rfl (lv_at hl 2 rfl) ?_
  refine lv_iload_n hx hb dX11_marchFinds_2 rfl (lv_at hl 3 rfl) ?_
  refine lv_iload hx hb dX11_marchFinds_3 (lv_at hl 4 rfl) ?_
  refine lv_iload hx hb dX11_marchFinds_5 (lv_at hl 5 rfl) ?_
  have hPc : va_P D vwCl [] _ := hP.sub (ws' := []) [] rfl
  have hDc : va_D (fun q => z0 ≤ q) [] := (hD.to hAz).pick (ws' := []) [] (by decide) rfl
  have hFc := AnA (ws := [((a 0), f_x a), ((a 9), f_memory a)]) hS.1
  refine va_calli (va_runS (As := [.int p0, .int p1, .int p2, .int p3, .int p4]) (rest := []) ⟨hx, hb, hml, hown, ht⟩ (k_X5_isFault l D g z0 _ a p0 p1 p2 p3 p4 hc_p0) (va_cwS 5 ht (gS w_263 w_265 w_220 w_264) rfl rfl rfl (by decide +kernel) (le2 rfl rfl)) ⟨PP.blind, PP.mk' hK hZ hz hAz hS hPc hDc⟩ rfl rfl hl.1 rfl (lv_room (Nat.le_of_ble_eq_true rfl)) dX11_marchFinds_7 (le2 rfl rfl)) hS (fun q _ h => hFc q h) hFc (fun r u t H locs ht1 hvm hw hB hz1 hk1 hS => ?_)
  rcases hw with hw | hw
  · obtain ⟨rfl, hw⟩ := hw
    rcases hw with hw | hw | hw | hw | hw | hw | hw | hw | hw | hw | hw | hw | hw | hw | hw | hw | hw | hw | hw | hw | hw | hw | hw | hw | hw | hw
    · obtain ⟨c_1, c_2⟩ := hw
      have hP := ro1 hP hk1
      refine lv_if_ne (tgt := 21) hx hb dX11_marchFinds_10 (by decide) (fun c_3 => ?_) (fun c_3 => ?_)
      · exact absurd c_3 (by decide)
      · exact thr0 hx hb hfl hown ht hK.2.2 hZ hAz hS hl hml htab hlocks (by decide +kernel) w_41 w_42 at_X11_116 dX11_marchFinds_13 dX11_marchFinds_16 dX11_marchFinds_17 dX11_marchFinds_20 rfl rfl rfl rfl (fun t _ hF => ⟨(), trivial, (Or.inl ⟨rfl, (Or.inl ⟨c_1, c_2⟩)⟩), hF⟩) (fun _ h => h) rfl rfl
    · obtain ⟨c_4, c_5, c_6, c_7, c_8, c_9, c_10, c_11⟩ := hw
      have hP := ro1 hP hk1
      refine lv_if_ne (tgt := 21) hx hb dX11_marchFinds_10 (by decide) (fun c_12 => ?_) (fun c_12 => ?_)
      · exact absurd c_12 (by decide)
      · exact thr0 hx hb hfl hown ht hK.2.2 hZ hAz hS hl hml htab hlocks (by decide +kernel) w_41 w_42 at_X11_116 dX11_marchFinds_13 dX11_marchFinds_16 dX11_marchFinds_17 dX11_marchFinds_20 rfl rfl rfl rfl (fun t _ hF => ⟨(), trivial, (Or.inl ⟨rfl, (Or.inr (Or.inl ⟨c_4, c_5, c_6, c_7, c_8, c_9, c_10, c_11⟩))⟩), hF⟩) (fun _ h => h) rfl rfl
    · obtain ⟨c_13, c_14, c_15⟩ := hw
      have hP := ro1 hP hk1
      refine lv_if_ne (tgt := 21) hx hb dX11_marchFinds_10 (by decide) (fun c_16 => ?_) (fun c_16 => ?_)
      · exact absurd c_16 (by decide)
      · exact thr0 hx hb hfl hown ht hK.2.2 hZ hAz hS hl hml htab hlocks (by decide +kernel) w_41 w_42 at_X11_116 dX11_marchFinds_13 dX11_marchFinds_16 dX11_marchFinds_17 dX11_marchFinds_20 rfl rfl rfl rfl (fun t _ hF => ⟨(), trivial, (Or.inl ⟨rfl, (Or.inr (Or.inr (Or.inl ⟨c_13, c_14, c_15⟩)))⟩), hF⟩) (fun _ h => h) rfl rfl
    · obtain ⟨c_17, c_18, c_19⟩ := hw
      have hP := ro1 hP hk1
      refine lv_if_ne (tgt := 21) hx hb dX11_marchFinds_10 (by decide) (fun c_20 => ?_) (fun c_20 => ?_)
      · exact absurd c_20 (by decide)
      · exact thr0 hx hb hfl hown ht hK.2.2 hZ hAz hS hl hml htab hlocks (by decide +kernel) w_41 w_42 at_X11_116 dX11_marchFinds_13 dX11_marchFinds_16 dX11_marchFinds_17 dX11_marchFinds_20 rfl rfl rfl rfl (fun t _ hF => ⟨(), trivial, (Or.inl ⟨rfl, (Or.inr (Or.inr (Or.inr (Or.inl ⟨c_17, c_18, c_19⟩))))⟩), hF⟩) (fun _ h => h) rfl rfl
    · obtain ⟨c_21, c_22, c_23, c_24, c_25, c_26, c_27, c_28, c_29⟩ := hw
      have hP := ro1 hP hk1
      refine lv_if_ne (tgt := 21) hx hb dX11_marchFinds_10 (by decide) (fun c_30 => ?_) (fun c_30 => ?_)
      · exact absurd c_30 (by decide)
      · exact thr0 hx hb hfl hown ht hK.2.2 hZ hAz hS hl hml htab hlocks (by decide +kernel) w_41 w_42 at_X11_116 dX11_marchFinds_13 dX11_marchFinds_16 dX11_marchFinds_17 dX11_marchFinds_20 rfl rfl rfl rfl (fun t _ hF => ⟨(), trivial, (Or.inl ⟨rfl, (Or.inr (Or.inr (Or.inr (Or.inr (Or.inl ⟨c_21, c_22, c_23, c_24, c_25, c_26, c_27, c_28, c_29⟩)))))⟩), hF⟩) (fun _ h => h) rfl rfl
    · obtain ⟨c_31, c_32, c_33, c_34⟩ := hw
      have hP := ro1 hP hk1
      refine lv_if_ne (tgt := 21) hx hb dX11_marchFinds_10 (by decide) (fun c_35 => ?_) (fun c_35 => ?_)
      · exact absurd c_35 (by decide)
      · exact thr0 hx hb hfl hown ht hK.2.2 hZ hAz hS hl hml htab hlocks (by decide +kernel) w_41 w_42 at_X11_116 dX11_marchFinds_13 dX11_marchFinds_16 dX11_marchFinds_17 dX11_marchFinds_20 rfl rfl rfl rfl (fun t _ hF => ⟨(), trivial, (Or.inl ⟨rfl, (Or.inr (Or.inr (Or.inr (Or.inr (Or.inr (Or.inl ⟨c_31, c_32, c_33, c_34⟩))))))⟩), hF⟩) (fun _ h => h) rfl rfl
    · obtain ⟨c_36, c_37, c_38, c_39⟩ := hw
      have hP := ro1 hP hk1
      refine lv_if_ne (tgt := 21) hx hb dX11_marchFinds_10 (by decide) (fun c_40 => ?_) (fun c_40 => ?_)
      · exact absurd c_40 (by decide)
      · exact thr0 hx hb hfl hown ht hK.2.2 hZ hAz hS hl hml htab hlocks (by decide +kernel) w_41 w_42 at_X11_116 dX11_marchFinds_13 dX11_marchFinds_16 dX11_marchFinds_17 dX11_marchFinds_20 rfl rfl rfl rfl (fun t _ hF => ⟨(), trivial, (Or.inl ⟨rfl, (Or.inr (Or.inr (Or.inr (Or.inr (Or.inr (Or.inr (Or.inl ⟨c_36, c_37, c_38, c_39⟩)))))))⟩), hF⟩) (fun _ h => h) rfl rfl
    · obtain ⟨c_41, c_42, c_43, c_44, c_45, c_46⟩ := hw
      have hP := ro1 hP hk1
      refine lv_if_ne (tgt := 21) hx hb dX11_marchFinds_10 (by decide) (fun c_47 => ?_) (fun c_47 => ?_)
      · exact absurd c_47 (by decide)
      · exact thr0 hx hb hfl hown ht hK.2.2 hZ hAz hS hl hml htab hlocks (by decide +kernel) w_41 w_42 at_X11_116 dX11_marchFinds_13 dX11_marchFinds_16 dX11_marchFinds_17 dX11_marchFinds_20 rfl rfl rfl rfl (fun t _ hF => ⟨(), trivial, (Or.inl ⟨rfl, (Or.inr (Or.inr (Or.inr (Or.inr (Or.inr (Or.inr (Or.inr (Or.inl ⟨c_41, c_42, c_43, c_44, c_45, c_46⟩))))))))⟩), hF⟩) (fun _ h => h) rfl rfl
    · obtain ⟨c_48, c_49, c_50, c_51, c_52, c_53, c_54⟩ := hw
      have hP := ro1 hP hk1
      refine lv_if_ne (tgt := 21) hx hb dX11_marchFinds_10 (by decide) (fun c_55 => ?_) (fun c_55 => ?_)
      · exact absurd c_55 (by decide)
      · exact thr0 hx hb hfl hown ht hK.2.2 hZ hAz hS hl hml htab hlocks (by decide +kernel) w_41 w_42 at_X11_116 dX11_marchFinds_13 dX11_marchFinds_16 dX11_marchFinds_17 dX11_marchFinds_20 rfl rfl rfl rfl (fun t _ hF => ⟨(), trivial, (Or.inl ⟨rfl, (Or.inr (Or.inr (Or.inr (Or.inr (Or.inr (Or.inr (Or.inr (Or.inr (Or.inl ⟨c_48, c_49, c_50, c_51, c_52, c_53, c_54⟩)))))))))⟩), hF⟩) (fun _ h => h) rfl rfl
    · obtain ⟨c_56, c_57, c_58, c_59, c_60, c_61, c_62, c_63, c_64, c_65, c_66, c_67⟩ := hw
      have hP := ro1 hP hk1
      refine lv_if_ne (tgt := 21) hx hb dX11_marchFinds_10 (by decide) (fun c_68 => ?_) (fun c_68 => ?_)
      · exact absurd c_68 (by decide)
      · exact thr0 hx hb hfl hown ht hK.2.2 hZ hAz hS hl hml htab hlocks (by decide +kernel) w_41 w_42 at_X11_116 dX11_marchFinds_13 dX11_marchFinds_16 dX11_marchFinds_17 dX11_marchFinds_20 rfl rfl rfl rfl (fun t _ hF => ⟨(), trivial, (Or.inl ⟨rfl, (Or.inr (Or.inr (Or.inr (Or.inr (Or.inr (Or.inr (Or.inr (Or.inr (Or.inr (Or.inl ⟨c_56, c_57, c_58, c_59, c_60, c_61, c_62, c_63, c_64, c_65, c_66, c_67⟩))))))))))⟩), hF⟩) (fun _ h => h) rfl rfl
    · obtain ⟨c_69, c_70, c_71, c_72, c_73, c_74, c_75, c_76, c_77, c_78, c_79, c_80, c_81⟩ := hw
      have hP := ro1 hP hk1
      refine lv_if_ne (tgt := 21) hx hb dX11_marchFinds_10 (by decide) (fun c_82 => ?_) (fun c_82 => ?_)
      · exact absurd c_82 (by decide)
      · exact thr0 hx hb hfl hown ht hK.2.2 hZ hAz hS hl hml htab hlocks (by decide +kernel) w_41 w_42 at_X11_116 dX11_marchFinds_13 dX11_marchFinds_16 dX11_marchFinds_17 dX11_marchFinds_20 rfl rfl rfl rfl (fun t _ hF => ⟨(), trivial, (Or.inl ⟨rfl, (Or.inr (Or.inr (Or.inr (Or.inr (Or.inr (Or.inr (Or.inr (Or.inr (Or.inr (Or.inr (Or.inl ⟨c_69, c_70, c_71, c_72, c_73, c_74, c_75, c_76, c_77, c_78, c_79, c_80, c_81⟩)))))))))))⟩), hF⟩) (fun _ h => h) rfl rfl
    · obtain ⟨c_83, c_84, c_85, c_86, c_87, c_88, c_89, c_90, c_91, c_92, c_93⟩ := hw
      have hP := ro1 hP hk1
      refine lv_if_ne (tgt := 21) hx hb dX11_marchFinds_10 (by decide) (fun c_94 => ?_) (fun c_94 => ?_)
      · exact absurd c_94 (by decide)
      · exact thr0 hx hb hfl hown ht hK.2.2 hZ hAz hS hl hml htab hlocks (by decide +kernel) w_41 w_42 at_X11_116 dX11_marchFinds_13 dX11_marchFinds_16 dX11_marchFinds_17 dX11_marchFinds_20 rfl rfl rfl rfl (fun t _ hF => ⟨(), trivial, (Or.inl ⟨rfl, (Or.inr (Or.inr (Or.inr (Or.inr (Or.inr (Or.inr (Or.inr (Or.inr (Or.inr (Or.inr (Or.inr (Or.inl ⟨c_83, c_84, c_85, c_86, c_87, c_88, c_89, c_90, c_91, c_92, c_93⟩))))))))))))⟩), hF⟩) (fun _ h => h) rfl rfl
    · obtain ⟨c_95, c_96, c_97, c_98, c_99, c_100, c_101, c_102⟩ := hw
      have hP := ro1 hP hk1
      refine lv_if_ne (tgt := 21) hx hb dX11_marchFinds_10 (by decide) (fun c_103 => ?_) (fun c_103 => ?_)
      · exact absurd c_103 (by decide)
      · exact thr0 hx hb hfl hown ht hK.2.2 hZ hAz hS hl hml htab hlocks (by decide +kernel) w_41 w_42 at_X11_116 dX11_marchFinds_13 dX11_marchFinds_16 dX11_marchFinds_17 dX11_marchFinds_20 rfl rfl rfl rfl (fun t _ hF => ⟨(), trivial, (Or.inl ⟨rfl, (Or.inr (Or.inr (Or.inr (Or.inr (Or.inr (Or.inr (Or.inr (Or.inr (Or.inr (Or.inr (Or.inr (Or.inr (Or.inl ⟨c_95, c_96, c_97, c_98, c_99, c_100, c_101, c_102⟩)))))))))))))⟩), hF⟩) (fun _ h => h) rfl rfl
    · obtain ⟨c_104, c_105, c_106, c_107, c_108⟩ := hw
      have hP := ro1 hP hk1
      refine lv_if_ne (tgt := 21) hx hb dX11_marchFinds_10 (by decide) (fun c_109 => ?_) (fun c_109 => ?_)
      · exact absurd c_109 (by decide)
      · exact thr0 hx hb hfl hown ht hK.2.2 hZ hAz hS hl hml htab hlocks (by decide +kernel) w_41 w_42 at_X11_116 dX11_marchFinds_13 dX11_marchFinds_16 dX11_marchFinds_17 dX11_marchFinds_20 rfl rfl rfl rfl (fun t _ hF => ⟨(), trivial, (Or.inl ⟨rfl, (Or.inr (Or.inr (Or.inr (Or.inr (Or.inr (Or.inr (Or.inr (Or.inr (Or.inr (Or.inr (Or.inr (Or.inr (Or.inr (Or.inl ⟨c_104, c_105, c_106, c_107, c_108⟩))))))))))))))⟩), hF⟩) (fun _ h => h) rfl rfl
    · obtain ⟨c_110, c_111, c_112, c_113, c_114⟩ := hw
      have hP := ro1 hP hk1
      refine lv_if_ne (tgt := 21) hx hb dX11_marchFinds_10 (by decide) (fun c_115 => ?_) (fun c_115 => ?_)
      · exact absurd c_115 (by decide)
      · exact thr0 hx hb hfl hown ht hK.2.2 hZ hAz hS hl hml htab hlocks (by decide +kernel) w_41 w_42 at_X11_116 dX11_marchFinds_13 dX11_marchFinds_16 dX11_marchFinds_17 dX11_marchFinds_20 rfl rfl rfl rfl (fun t _ hF => ⟨(), trivial, (Or.inl ⟨rfl, (Or.inr (Or.inr (Or.inr (Or.inr (Or.inr (Or.inr (Or.inr (Or.inr (Or.inr (Or.inr (Or.inr (Or.inr (Or.inr (Or.inr (Or.inl ⟨c_110, c_111, c_112, c_113, c_114⟩)))))))))))))))⟩), hF⟩) (fun _ h => h) rfl rfl
    · obtain ⟨c_116, c_117, c_118, c_119, c_120, c_121, c_122⟩ := hw
      have hP := ro1 hP hk1
      refine lv_if_ne (tgt := 21) hx hb dX11_marchFinds_10 (by decide) (fun c_123 => ?_) (fun c_123 => ?_)
      · exact absurd c_123 (by decide)
      · exact thr0 hx hb hfl hown ht hK.2.2 hZ hAz hS hl hml htab hlocks (by decide +kernel) w_41 w_42 at_X11_116 dX11_marchFinds_13 dX11_marchFinds_16 dX11_marchFinds_17 dX11_marchFinds_20 rfl rfl rfl rfl (fun t _ hF => ⟨(), trivial, (Or.inl ⟨rfl, (Or.inr (Or.inr (Or.inr (Or.inr (Or.inr (Or.inr (Or.inr (Or.inr (Or.inr (Or.inr (Or.inr (Or.inr (Or.inr (Or.inr (Or.inr (Or.inl ⟨c_116, c_117, c_118, c_119, c_120, c_121, c_122⟩))))))))))))))))⟩), hF⟩) (fun _ h => h) rfl rfl
    · obtain ⟨c_124, c_125, c_126, c_127, c_128, c_129, c_130, c_131⟩ := hw
      have hP := ro1 hP hk1
      refine lv_if_ne (tgt := 21) hx hb dX11_marchFinds_10 (by decide) (fun c_132 => ?_) (fun c_132 => ?_)
      · exact absurd c_132 (by decide)
      · exact thr0 hx hb hfl hown ht hK.2.2 hZ hAz hS hl hml htab hlocks (by decide +kernel) w_41 w_42 at_X11_116 dX11_marchFinds_13 dX11_marchFinds_16 dX11_marchFinds_17 dX11_marchFinds_20 rfl rfl rfl rfl (fun t _ hF => ⟨(), trivial, (Or.inl ⟨rfl, (Or.inr (Or.inr (Or.inr (Or.inr (Or.inr (Or.inr (Or.inr (Or.inr (Or.inr (Or.inr (Or.inr (Or.inr (Or.inr (Or.inr (Or.inr (Or.inr (Or.inl ⟨c_124, c_125, c_126, c_127, c_128, c_129, c_130, c_131⟩)))))))))))))))))⟩), hF⟩) (fun _ h => h) rfl rfl
    · obtain ⟨c_133, c_134, c_135, c_136, c_137, c_138, c_139, c_140, c_141, c_142, c_143, c_144⟩ := hw
      have hP := ro1 hP hk1
      refine lv_if_ne (tgt := 21) hx hb dX11_marchFinds_10 (by decide) (fun c_145 => ?_) (fun c_145 => ?_)
      · exact absurd c_145 (by decide)
      · exact thr0 hx hb hfl hown ht hK.2.2 hZ hAz hS hl hml htab hlocks (by decide +kernel) w_41 w_42 at_X11_116 dX11_marchFinds_13 dX11_marchFinds_16 dX11_marchFinds_17 dX11_marchFinds_20 rfl rfl rfl rfl (fun t _ hF => ⟨(), trivial, (Or.inl ⟨rfl, (Or.inr (Or.inr (Or.inr (Or.inr (Or.inr (Or.inr (Or.inr (Or.inr (Or.inr (Or.inr (Or.inr (Or.inr (Or.inr (Or.inr (Or.inr (Or.inr (Or.inr (Or.inl ⟨c_133, c_134, c_135, c_136, c_137, c_138, c_139, c_140, c_141, c_142, c_143, c_144⟩))))))))))))))))))⟩), hF⟩) (fun _ h => h) rfl rfl
    · obtain ⟨c_146, c_147, c_148, c_149, c_150, c_151, c_152, c_153, c_154⟩ := hw
      have hP := ro1 hP hk1
      refine lv_if_ne (tgt := 21) hx hb dX11_marchFinds_10 (by decide) (fun c_155 => ?_) (fun c_155 => ?_)
      · exact absurd c_155 (by decide)
      · exact thr0 hx hb hfl hown ht hK.2.2 hZ hAz hS hl hml htab hlocks (by decide +kernel) w_41 w_42 at_X11_116 dX11_marchFinds_13 dX11_marchFinds_16 dX11_marchFinds_17 dX11_marchFinds_20 rfl rfl rfl rfl (fun t _ hF => ⟨(), trivial, (Or.inl ⟨rfl, (Or.inr (Or.inr (Or.inr (Or.inr (Or.inr (Or.inr (Or.inr (Or.inr (Or.inr (Or.inr (Or.inr (Or.inr (Or.inr (Or.inr (Or.inr (Or.inr (Or.inr (Or.inr (Or.inl ⟨c_146, c_147, c_148, c_149, c_150, c_151, c_152, c_153, c_154⟩)))))))))))))))))))⟩), hF⟩) (fun _ h => h) rfl rfl
    · obtain ⟨c_156, c_157, c_158, c_159, c_160, c_161⟩ := hw
      have hP := ro1 hP hk1
      refine lv_if_ne (tgt := 21) hx hb dX11_marchFinds_10 (by decide) (fun c_162 => ?_) (fun c_162 => ?_)
      · exact absurd c_162 (by decide)
      · exact thr0 hx hb hfl hown ht hK.2.2 hZ hAz hS hl hml htab hlocks (by decide +kernel) w_41 w_42 at_X11_116 dX11_marchFinds_13 dX11_marchFinds_16 dX11_marchFinds_17 dX11_marchFinds_20 rfl rfl rfl rfl (fun t _ hF => ⟨(), trivial, (Or.inl ⟨rfl, (Or.inr (Or.inr (Or.inr (Or.inr (Or.inr (Or.inr (Or.inr (Or.inr (Or.inr (Or.inr (Or.inr (Or.inr (Or.inr (Or.inr (Or.inr (Or.inr (Or.inr (Or.inr (Or.inr (Or.inl ⟨c_156, c_157, c_158, c_159, c_160, c_161⟩))))))))))))))))))))⟩), hF⟩) (fun _ h => h) rfl rfl
    · obtain ⟨c_163, c_164, c_165, c_166, c_167, c_168⟩ := hw
      have hP := ro1 hP hk1
      refine lv_if_ne (tgt := 21) hx hb dX11_marchFinds_10 (by decide) (fun c_169 => ?_) (fun c_169 => ?_)
      · exact absurd c_169 (by decide)
      · exact thr0 hx hb hfl hown ht hK.2.2 hZ hAz hS hl hml htab hlocks (by decide +kernel) w_41 w_42 at_X11_116 dX11_marchFinds_13 dX11_marchFinds_16 dX11_marchFinds_17 dX11_marchFinds_20 rfl rfl rfl rfl (fun t _ hF => ⟨(), trivial, (Or.inl ⟨rfl, (Or.inr (Or.inr (Or.inr (Or.inr (Or.inr (Or.inr (Or.inr (Or.inr (Or.inr (Or.inr (Or.inr (Or.inr (Or.inr (Or.inr (Or.inr (Or.inr (Or.inr (Or.inr (Or.inr (Or.inr (Or.inl ⟨c_163, c_164, c_165, c_166, c_167, c_168⟩)))))))))))))))))))))⟩), hF⟩) (fun _ h => h) rfl rfl
    · obtain ⟨c_170, c_171, c_172, c_173, c_174, c_175, c_176, c_177⟩ := hw
      have hP := ro1 hP hk1
      refine lv_if_ne (tgt := 21) hx hb dX11_marchFinds_10 (by decide) (fun c_178 => ?_) (fun c_178 => ?_)
      · exact absurd c_178 (by decide)
      · exact thr0 hx hb hfl hown ht hK.2.2 hZ hAz hS hl hml htab hlocks (by decide +kernel) w_41 w_42 at_X11_116 dX11_marchFinds_13 dX11_marchFinds_16 dX11_marchFinds_17 dX11_marchFinds_20 rfl rfl rfl rfl (fun t _ hF => ⟨(), trivial, (Or.inl ⟨rfl, (Or.inr (Or.inr (Or.inr (Or.inr (Or.inr (Or.inr (Or.inr (Or.inr (Or.inr (Or.inr (Or.inr (Or.inr (Or.inr (Or.inr (Or.inr (Or.inr (Or.inr (Or.inr (Or.inr (Or.inr (Or.inr (Or.inl ⟨c_170, c_171, c_172, c_173, c_174, c_175, c_176, c_177⟩))))))))))))))))))))))⟩), hF⟩) (fun _ h => h) rfl rfl
    · obtain ⟨c_179, c_180, c_181, c_182, c_183, c_184, c_185, c_186, c_187⟩ := hw
      have hP := ro1 hP hk1
      refine lv_if_ne (tgt := 21) hx hb dX11_marchFinds_10 (by decide) (fun c_188 => ?_) (fun c_188 => ?_)
      · exact absurd c_188 (by decide)
      · exact thr0 hx hb hfl hown ht hK.2.2 hZ hAz hS hl hml htab hlocks (by decide +kernel) w_41 w_42 at_X11_116 dX11_marchFinds_13 dX11_marchFinds_16 dX11_marchFinds_17 dX11_marchFinds_20 rfl rfl rfl rfl (fun t _ hF => ⟨(), trivial, (Or.inl ⟨rfl, (Or.inr (Or.inr (Or.inr (Or.inr (Or.inr (Or.inr (Or.inr (Or.inr (Or.inr (Or.inr (Or.inr (Or.inr (Or.inr (Or.inr (Or.inr (Or.inr (Or.inr (Or.inr (Or.inr (Or.inr (Or.inr (Or.inr (Or.inl ⟨c_179, c_180, c_181, c_182, c_183, c_184, c_185, c_186, c_187⟩)))))))))))))))))))))))⟩), hF⟩) (fun _ h => h) rfl rfl
    · obtain ⟨c_189, c_190, c_191, c_192, c_193, c_194, c_195, c_196, c_197, c_198⟩ := hw
      have hP := ro1 hP hk1
      refine lv_if_ne (tgt := 21) hx hb dX11_marchFinds_10 (by decide) (fun c_199 => ?_) (fun c_199 => ?_)
      · exact absurd c_199 (by decide)
      · exact thr0 hx hb hfl hown ht hK.2.2 hZ hAz hS hl hml htab hlocks (by decide +kernel) w_41 w_42 at_X11_116 dX11_marchFinds_13 dX11_marchFinds_16 dX11_marchFinds_17 dX11_marchFinds_20 rfl rfl rfl rfl (fun t _ hF => ⟨(), trivial, (Or.inl ⟨rfl, (Or.inr (Or.inr (Or.inr (Or.inr (Or.inr (Or.inr (Or.inr (Or.inr (Or.inr (Or.inr (Or.inr (Or.inr (Or.inr (Or.inr (Or.inr (Or.inr (Or.inr (Or.inr (Or.inr (Or.inr (Or.inr (Or.inr (Or.inr (Or.inl ⟨c_189, c_190, c_191, c_192, c_193, c_194, c_195, c_196, c_197, c_198⟩))))))))))))))))))))))))⟩), hF⟩) (fun _ h => h) rfl rfl
    · obtain ⟨c_200, c_201, c_202, c_203, c_204, c_205, c_206⟩ := hw
      have hP := ro1 hP hk1
      refine lv_if_ne (tgt := 21) hx hb dX11_marchFinds_10 (by decide) (fun c_207 => ?_) (fun c_207 => ?_)
      · exact absurd c_207 (by decide)
      · exact thr0 hx hb hfl hown ht hK.2.2 hZ hAz hS hl hml htab hlocks (by decide +kernel) w_41 w_42 at_X11_116 dX11_marchFinds_13 dX11_marchFinds_16 dX11_marchFinds_17 dX11_marchFinds_20 rfl rfl rfl rfl (fun t _ hF => ⟨(), trivial, (Or.inl ⟨rfl, (Or.inr (Or.inr (Or.inr (Or.inr (Or.inr (Or.inr (Or.inr (Or.inr (Or.inr (Or.inr (Or.inr (Or.inr (Or.inr (Or.inr (Or.inr (Or.inr (Or.inr (Or.inr (Or.inr (Or.inr (Or.inr (Or.inr (Or.inr (Or.inr (Or.inl ⟨c_200, c_201, c_202, c_203, c_204, c_205, c_206⟩)))))))))))))))))))))))))⟩), hF⟩) (fun _ h => h) rfl rfl
    · obtain ⟨c_208, c_209, c_210, c_211, c_212⟩ := hw
      have hP := ro1 hP hk1
      refine lv_if_ne (tgt := 21) hx hb dX11_marchFinds_10 (by decide) (fun c_213 => ?_) (fun c_213 => ?_)
      · exact absurd c_213 (by decide)
      · exact thr0 hx hb hfl hown ht hK.2.2 hZ hAz hS hl hml htab hlocks (by decide +kernel) w_41 w_42 at_X11_116 dX11_marchFinds_13 dX11_marchFinds_16 dX11_marchFinds_17 dX11_marchFinds_20 rfl rfl rfl rfl (fun t _ hF => ⟨(), trivial, (Or.inl ⟨rfl, (Or.inr (Or.inr (Or.inr (Or.inr (Or.inr (Or.inr (Or.inr (Or.inr (Or.inr (Or.inr (Or.inr (Or.inr (Or.inr (Or.inr (Or.inr (Or.inr (Or.inr (Or.inr (Or.inr (Or.inr (Or.inr (Or.inr (Or.inr (Or.inr (Or.inr ⟨c_208, c_209, c_210, c_211, c_212⟩)))))))))))))))))))))))))⟩), hF⟩) (fun _ h => h) rfl rfl
  · obtain ⟨rfl, hw⟩ := hw
    rcases hw with hw | hw | hw | hw | hw | hw | hw | hw | hw | hw | hw
    · obtain ⟨c_214, c_215, c_216, c_217, c_218, c_219, c_220⟩ := hw
      have hP := ro1 hP hk1
      refine lv_if_ne (tgt := 21) hx hb dX11_marchFinds_10 (by decide) (fun c_221 => ?_) (fun c_221 => ?_)
      · refine lv_aload_n hx hb dX11_marchFinds_21 rfl (lv_at hl 0 rfl) ?_
        refine va_get (D := D) (ci := 17) (v := .ref (a 9)) (C := RX11) (T := TX11) (N := 11) hx hb ht in_X11 hown hK.1 hP 0 rfl rfl 8 (by decide) (ht _ w_166) (fun _ h9 => h9) rfl dX11_marchFinds_22 ?_
        have hPc : va_P D vwCl [((a 9), f_memory a)] _ := hP.sub (ws' := [((a 9), f_memory a)]) [1] rfl
        have hDc : va_D (fun q => z0 ≤ q) [((a 9), f_memory a)] := (hD.to hAz).pick (ws' := [((a 9), f_memory a)]) [1] (by decide) rfl
        have hFc := va_free (wc := [((a 9), f_memory a)]) hD hS hA [1] rfl
        refine va_calli (va_runV (As := []) (rest := []) ⟨hx, hb, hml, hown, ht⟩ (k_X5_isMarchRight l D g z0 _ a) (cwV 0 ht (gV w_216 w_218 w_219 w_220 w_217) rfl rfl rfl (by decide +kernel) (le2 rfl rfl)) ⟨PP.blind, va_recv hK.1 hP (ci := 11) (q0 := 1) rfl rfl, PP.mk' hK hZ hz hAz hS hPc hDc⟩ rfl rfl hl.1 rfl (lv_room (Nat.le_of_ble_eq_true rfl)) dX11_marchFinds_25 (le2 rfl rfl)) hS (fun q _ h => hFc q h) hFc (fun r u t H locs ht1 hvm hw hB hz1 hk1 hS => ?_)
        obtain ⟨rfl, hw⟩ := hw
        obtain ⟨hP1, hD1⟩ := hB
        rw [ht1] at hP1
        obtain ⟨hP, hD⟩ := va_join (wr := [((a 0), f_x a)]) (w1 := [((a 9), f_memory a)]) hP hD [1] [0] rfl rfl (by decide) (by decide) hk1 hFc hP1 hD1
        have hP : va_P D vwCl [((a 0), f_x a), ((a 9), f_memory a)] H := hP
        have hD : va_D (va_A [((a 0), f_x a), ((a 9), f_memory a)] s.heap.size) [((a 0), f_x a), ((a 9), f_memory a)] := hD
        refine lv_if_ne (tgt := 39) hx hb dX11_marchFinds_28 (by decide) (fun c_222 => ?_) (fun c_222 => ?_)
        · exact absurd c_222 (by decide)
        · exact thr0 hx hb hfl hown ht hK.2.2 hZ hAz hS hl hml htab hlocks (by decide +kernel) w_69 w_70 at_X11_127 dX11_marchFinds_31 dX11_marchFinds_34 dX11_marchFinds_35 dX11_marchFinds_38 rfl rfl rfl rfl (fun t _ hF => ⟨(), trivial, (Or.inr ⟨rfl, (Or.inl ⟨c_214, c_215, c_216, c_217, c_218, c_219, c_220⟩)⟩), hF⟩) (fun _ h => h) rfl rfl
      · exact absurd c_221 (by decide)
    · obtain ⟨c_223, c_224, c_225, c_226, c_227, c_228, c_229, c_230⟩ := hw
      have hP := ro1 hP hk1
      refine lv_if_ne (tgt := 21) hx hb dX11_marchFinds_10 (by decide) (fun c_231 => ?_) (fun c_231 => ?_)
      · refine lv_aload_n hx hb dX11_marchFinds_21 rfl (lv_at hl 0 rfl) ?_
        refine va_get (D := D) (ci := 17) (v := .ref (a 9)) (C := RX11) (T := TX11) (N := 11) hx hb ht in_X11 hown hK.1 hP 0 rfl rfl 8 (by decide) (ht _ w_166) (fun _ h9 => h9) rfl dX11_marchFinds_22 ?_
        have hPc : va_P D vwCl [((a 9), f_memory a)] _ := hP.sub (ws' := [((a 9), f_memory a)]) [1] rfl
        have hDc : va_D (fun q => z0 ≤ q) [((a 9), f_memory a)] := (hD.to hAz).pick (ws' := [((a 9), f_memory a)]) [1] (by decide) rfl
        have hFc := va_free (wc := [((a 9), f_memory a)]) hD hS hA [1] rfl
        refine va_calli (va_runV (As := []) (rest := []) ⟨hx, hb, hml, hown, ht⟩ (k_X5_isMarchRight l D g z0 _ a) (cwV 0 ht (gV w_216 w_218 w_219 w_220 w_217) rfl rfl rfl (by decide +kernel) (le2 rfl rfl)) ⟨PP.blind, va_recv hK.1 hP (ci := 11) (q0 := 1) rfl rfl, PP.mk' hK hZ hz hAz hS hPc hDc⟩ rfl rfl hl.1 rfl (lv_room (Nat.le_of_ble_eq_true rfl)) dX11_marchFinds_25 (le2 rfl rfl)) hS (fun q _ h => hFc q h) hFc (fun r u t H locs ht1 hvm hw hB hz1 hk1 hS => ?_)
        obtain ⟨rfl, hw⟩ := hw
        obtain ⟨hP1, hD1⟩ := hB
        rw [ht1] at hP1
        obtain ⟨hP, hD⟩ := va_join (wr := [((a 0), f_x a)]) (w1 := [((a 9), f_memory a)]) hP hD [1] [0] rfl rfl (by decide) (by decide) hk1 hFc hP1 hD1
        have hP : va_P D vwCl [((a 0), f_x a), ((a 9), f_memory a)] H := hP
        have hD : va_D (va_A [((a 0), f_x a), ((a 9), f_memory a)] s.heap.size) [((a 0), f_x a), ((a 9), f_memory a)] := hD
        refine lv_if_ne (tgt := 39) hx hb dX11_marchFinds_28 (by decide) (fun c_232 => ?_) (fun c_232 => ?_)
        · exact absurd c_232 (by decide)
        · exact thr0 hx hb hfl hown ht hK.2.2 hZ hAz hS hl hml htab hlocks (by decide +kernel) w_69 w_70 at_X11_127 dX11_marchFinds_31 dX11_marchFinds_34 dX11_marchFinds_35 dX11_marchFinds_38 rfl rfl rfl rfl (fun t _ hF => ⟨(), trivial, (Or.inr ⟨rfl, (Or.inr (Or.inl ⟨c_223, c_224, c_225, c_226, c_227, c_228, c_229, c_230⟩))⟩), hF⟩) (fun _ h => h) rfl rfl
      · exact absurd c_231 (by decide)
    · obtain ⟨c_233, c_234, c_235, c_236, c_237, c_238, c_239, c_240⟩ := hw
      have hP := ro1 hP hk1
      refine lv_if_ne (tgt := 21) hx hb dX11_marchFinds_10 (by decide) (fun c_241 => ?_) (fun c_241 => ?_)
      · refine lv_aload_n hx hb dX11_marchFinds_21 rfl (lv_at hl 0 rfl) ?_
        refine va_get (D := D) (ci := 17) (v := .ref (a 9)) (C := RX11) (T := TX11) (N := 11) hx hb ht in_X11 hown hK.1 hP 0 rfl rfl 8 (by decide) (ht _ w_166) (fun _ h9 => h9) rfl dX11_marchFinds_22 ?_
        have hPc : va_P D vwCl [((a 9), f_memory a)] _ := hP.sub (ws' := [((a 9), f_memory a)]) [1] rfl
        have hDc : va_D (fun q => z0 ≤ q) [((a 9), f_memory a)] := (hD.to hAz).pick (ws' := [((a 9), f_memory a)]) [1] (by decide) rfl
        have hFc := va_free (wc := [((a 9), f_memory a)]) hD hS hA [1] rfl
        refine va_calli (va_runV (As := []) (rest := []) ⟨hx, hb, hml, hown, ht⟩ (k_X5_isMarchRight l D g z0 _ a) (cwV 0 ht (gV w_216 w_218 w_219 w_220 w_217) rfl rfl rfl (by decide +kernel) (le2 rfl rfl)) ⟨PP.blind, va_recv hK.1 hP (ci := 11) (q0 := 1) rfl rfl, PP.mk' hK hZ hz hAz hS hPc hDc⟩ rfl rfl hl.1 rfl (lv_room (Nat.le_of_ble_eq_true rfl)) dX11_marchFinds_25 (le2 rfl rfl)) hS (fun q _ h => hFc q h) hFc (fun r u t H locs ht1 hvm hw hB hz1 hk1 hS => ?_)
        obtain ⟨rfl, hw⟩ := hw
        obtain ⟨hP1, hD1⟩ := hB
        rw [ht1] at hP1
        obtain ⟨hP, hD⟩ := va_join (wr := [((a 0), f_x a)]) (w1 := [((a 9), f_memory a)]) hP hD [1] [0] rfl rfl (by decide) (by decide) hk1 hFc hP1 hD1
        have hP : va_P D vwCl [((a 0), f_x a), ((a 9), f_memory a)] H := hP
        have hD : va_D (va_A [((a 0), f_x a), ((a 9), f_memory a)] s.heap.size) [((a 0), f_x a), ((a 9), f_memory a)] := hD
        refine lv_if_ne (tgt := 39) hx hb dX11_marchFinds_28 (by decide) (fun c_242 => ?_) (fun c_242 => ?_)
        · exact absurd c_242 (by decide)
        · exact thr0 hx hb hfl hown ht hK.2.2 hZ hAz hS hl hml htab hlocks (by decide +kernel) w_69 w_70 at_X11_127 dX11_marchFinds_31 dX11_marchFinds_34 dX11_marchFinds_35 dX11_marchFinds_38 rfl rfl rfl rfl (fun t _ hF => ⟨(), trivial, (Or.inr ⟨rfl, (Or.inr (Or.inr (Or.inl ⟨c_233, c_234, c_235, c_236, c_237, c_238, c_239, c_240⟩)))⟩), hF⟩) (fun _ h => h) rfl rfl
      · exact absurd c_241 (by decide)
    · obtain ⟨c_243, c_244, c_245, c_246, c_247, c_248, c_249, c_250, c_251⟩ := hw
      have hP := ro1 hP hk1
      refine lv_if_ne (tgt := 21) hx hb dX11_marchFinds_10 (by decide) (fun c_252 => ?_) (fun c_252 => ?_)
      · refine lv_aload_n hx hb dX11_marchFinds_21 rfl (lv_at hl 0 rfl) ?_
        refine va_get (D := D) (ci := 17) (v := .ref (a 9)) (C := RX11) (T := TX11) (N := 11) hx hb ht in_X11 hown hK.1 hP 0 rfl rfl 8 (by decide) (ht _ w_166) (fun _ h9 => h9) rfl dX11_marchFinds_22 ?_
        have hPc : va_P D vwCl [((a 9), f_memory a)] _ := hP.sub (ws' := [((a 9), f_memory a)]) [1] rfl
        have hDc : va_D (fun q => z0 ≤ q) [((a 9), f_memory a)] := (hD.to hAz).pick (ws' := [((a 9), f_memory a)]) [1] (by decide) rfl
        have hFc := va_free (wc := [((a 9), f_memory a)]) hD hS hA [1] rfl
        refine va_calli (va_runV (As := []) (rest := []) ⟨hx, hb, hml, hown, ht⟩ (k_X5_isMarchRight l D g z0 _ a) (cwV 0 ht (gV w_216 w_218 w_219 w_220 w_217) rfl rfl rfl (by decide +kernel) (le2 rfl rfl)) ⟨PP.blind, va_recv hK.1 hP (ci := 11) (q0 := 1) rfl rfl, PP.mk' hK hZ hz hAz hS hPc hDc⟩ rfl rfl hl.1 rfl (lv_room (Nat.le_of_ble_eq_true rfl)) dX11_marchFinds_25 (le2 rfl rfl)) hS (fun q _ h => hFc q h) hFc (fun r u t H locs ht1 hvm hw hB hz1 hk1 hS => ?_)
        obtain ⟨rfl, hw⟩ := hw
        obtain ⟨hP1, hD1⟩ := hB
        rw [ht1] at hP1
        obtain ⟨hP, hD⟩ := va_join (wr := [((a 0), f_x a)]) (w1 := [((a 9), f_memory a)]) hP hD [1] [0] rfl rfl (by decide) (by decide) hk1 hFc hP1 hD1
        have hP : va_P D vwCl [((a 0), f_x a), ((a 9), f_memory a)] H := hP
        have hD : va_D (va_A [((a 0), f_x a), ((a 9), f_memory a)] s.heap.size) [((a 0), f_x a), ((a 9), f_memory a)] := hD
        refine lv_if_ne (tgt := 39) hx hb dX11_marchFinds_28 (by decide) (fun c_253 => ?_) (fun c_253 => ?_)
        · exact absurd c_253 (by decide)
        · exact thr0 hx hb hfl hown ht hK.2.2 hZ hAz hS hl hml htab hlocks (by decide +kernel) w_69 w_70 at_X11_127 dX11_marchFinds_31 dX11_marchFinds_34 dX11_marchFinds_35 dX11_marchFinds_38 rfl rfl rfl rfl (fun t _ hF => ⟨(), trivial, (Or.inr ⟨rfl, (Or.inr (Or.inr (Or.inr (Or.inl ⟨c_243, c_244, c_245, c_246, c_247, c_248, c_249, c_250, c_251⟩))))⟩), hF⟩) (fun _ h => h) rfl rfl
      · exact absurd c_252 (by decide)
    · obtain ⟨c_254, c_255, c_256, c_257, c_258, c_259, c_260, c_261, c_262, c_263, c_264⟩ := hw
      have hP := ro1 hP hk1
      refine lv_if_ne (tgt := 21) hx hb dX11_marchFinds_10 (by decide) (fun c_265 => ?_) (fun c_265 => ?_)
      · refine lv_aload_n hx hb dX11_marchFinds_21 rfl (lv_at hl 0 rfl) ?_
        refine va_get (D := D) (ci := 17) (v := .ref (a 9)) (C := RX11) (T := TX11) (N := 11) hx hb ht in_X11 hown hK.1 hP 0 rfl rfl 8 (by decide) (ht _ w_166) (fun _ h9 => h9) rfl dX11_marchFinds_22 ?_
        have hPc : va_P D vwCl [((a 9), f_memory a)] _ := hP.sub (ws' := [((a 9), f_memory a)]) [1] rfl
        have hDc : va_D (fun q => z0 ≤ q) [((a 9), f_memory a)] := (hD.to hAz).pick (ws' := [((a 9), f_memory a)]) [1] (by decide) rfl
        have hFc := va_free (wc := [((a 9), f_memory a)]) hD hS hA [1] rfl
        refine va_calli (va_runV (As := []) (rest := []) ⟨hx, hb, hml, hown, ht⟩ (k_X5_isMarchRight l D g z0 _ a) (cwV 0 ht (gV w_216 w_218 w_219 w_220 w_217) rfl rfl rfl (by decide +kernel) (le2 rfl rfl)) ⟨PP.blind, va_recv hK.1 hP (ci := 11) (q0 := 1) rfl rfl, PP.mk' hK hZ hz hAz hS hPc hDc⟩ rfl rfl hl.1 rfl (lv_room (Nat.le_of_ble_eq_true rfl)) dX11_marchFinds_25 (le2 rfl rfl)) hS (fun q _ h => hFc q h) hFc (fun r u t H locs ht1 hvm hw hB hz1 hk1 hS => ?_)
        obtain ⟨rfl, hw⟩ := hw
        obtain ⟨hP1, hD1⟩ := hB
        rw [ht1] at hP1
        obtain ⟨hP, hD⟩ := va_join (wr := [((a 0), f_x a)]) (w1 := [((a 9), f_memory a)]) hP hD [1] [0] rfl rfl (by decide) (by decide) hk1 hFc hP1 hD1
        have hP : va_P D vwCl [((a 0), f_x a), ((a 9), f_memory a)] H := hP
        have hD : va_D (va_A [((a 0), f_x a), ((a 9), f_memory a)] s.heap.size) [((a 0), f_x a), ((a 9), f_memory a)] := hD
        refine lv_if_ne (tgt := 39) hx hb dX11_marchFinds_28 (by decide) (fun c_266 => ?_) (fun c_266 => ?_)
        · exact absurd c_266 (by decide)
        · exact thr0 hx hb hfl hown ht hK.2.2 hZ hAz hS hl hml htab hlocks (by decide +kernel) w_69 w_70 at_X11_127 dX11_marchFinds_31 dX11_marchFinds_34 dX11_marchFinds_35 dX11_marchFinds_38 rfl rfl rfl rfl (fun t _ hF => ⟨(), trivial, (Or.inr ⟨rfl, (Or.inr (Or.inr (Or.inr (Or.inr (Or.inl ⟨c_254, c_255, c_256, c_257, c_258, c_259, c_260, c_261, c_262, c_263, c_264⟩)))))⟩), hF⟩) (fun _ h => h) rfl rfl
      · exact absurd c_265 (by decide)
    · obtain ⟨c_267, c_268, c_269, c_270, c_271, c_272, c_273, c_274, c_275, c_276, c_277, c_278⟩ := hw
      have hP := ro1 hP hk1
      refine lv_if_ne (tgt := 21) hx hb dX11_marchFinds_10 (by decide) (fun c_279 => ?_) (fun c_279 => ?_)
      · refine lv_aload_n hx hb dX11_marchFinds_21 rfl (lv_at hl 0 rfl) ?_
        refine va_get (D := D) (ci := 17) (v := .ref (a 9)) (C := RX11) (T := TX11) (N := 11) hx hb ht in_X11 hown hK.1 hP 0 rfl rfl 8 (by decide) (ht _ w_166) (fun _ h9 => h9) rfl dX11_marchFinds_22 ?_
        have hPc : va_P D vwCl [((a 9), f_memory a)] _ := hP.sub (ws' := [((a 9), f_memory a)]) [1] rfl
        have hDc : va_D (fun q => z0 ≤ q) [((a 9), f_memory a)] := (hD.to hAz).pick (ws' := [((a 9), f_memory a)]) [1] (by decide) rfl
        have hFc := va_free (wc := [((a 9), f_memory a)]) hD hS hA [1] rfl
        refine va_calli (va_runV (As := []) (rest := []) ⟨hx, hb, hml, hown, ht⟩ (k_X5_isMarchRight l D g z0 _ a) (cwV 0 ht (gV w_216 w_218 w_219 w_220 w_217) rfl rfl rfl (by decide +kernel) (le2 rfl rfl)) ⟨PP.blind, va_recv hK.1 hP (ci := 11) (q0 := 1) rfl rfl, PP.mk' hK hZ hz hAz hS hPc hDc⟩ rfl rfl hl.1 rfl (lv_room (Nat.le_of_ble_eq_true rfl)) dX11_marchFinds_25 (le2 rfl rfl)) hS (fun q _ h => hFc q h) hFc (fun r u t H locs ht1 hvm hw hB hz1 hk1 hS => ?_)
        obtain ⟨rfl, hw⟩ := hw
        obtain ⟨hP1, hD1⟩ := hB
        rw [ht1] at hP1
        obtain ⟨hP, hD⟩ := va_join (wr := [((a 0), f_x a)]) (w1 := [((a 9), f_memory a)]) hP hD [1] [0] rfl rfl (by decide) (by decide) hk1 hFc hP1 hD1
        have hP : va_P D vwCl [((a 0), f_x a), ((a 9), f_memory a)] H := hP
        have hD : va_D (va_A [((a 0), f_x a), ((a 9), f_memory a)] s.heap.size) [((a 0), f_x a), ((a 9), f_memory a)] := hD
        refine lv_if_ne (tgt := 39) hx hb dX11_marchFinds_28 (by decide) (fun c_280 => ?_) (fun c_280 => ?_)
        · exact absurd c_280 (by decide)
        · exact thr0 hx hb hfl hown ht hK.2.2 hZ hAz hS hl hml htab hlocks (by decide +kernel) w_69 w_70 at_X11_127 dX11_marchFinds_31 dX11_marchFinds_34 dX11_marchFinds_35 dX11_marchFinds_38 rfl rfl rfl rfl (fun t _ hF => ⟨(), trivial, (Or.inr ⟨rfl, (Or.inr (Or.inr (Or.inr (Or.inr (Or.inr (Or.inl ⟨c_267, c_268, c_269, c_270, c_271, c_272, c_273, c_274, c_275, c_276, c_277, c_278⟩))))))⟩), hF⟩) (fun _ h => h) rfl rfl
      · exact absurd c_279 (by decide)
    · obtain ⟨c_281, c_282, c_283, c_284, c_285, c_286, c_287, c_288, c_289, c_290, c_291, c_292⟩ := hw
      have hP := ro1 hP hk1
      refine lv_if_ne (tgt := 21) hx hb dX11_marchFinds_10 (by decide) (fun c_293 => ?_) (fun c_293 => ?_)
      · refine lv_aload_n hx hb dX11_marchFinds_21 rfl (lv_at hl 0 rfl) ?_
        refine va_get (D := D) (ci := 17) (v := .ref (a 9)) (C := RX11) (T := TX11) (N := 11) hx hb ht in_X11 hown hK.1 hP 0 rfl rfl 8 (by decide) (ht _ w_166) (fun _ h9 => h9) rfl dX11_marchFinds_22 ?_
        have hPc : va_P D vwCl [((a 9), f_memory a)] _ := hP.sub (ws' := [((a 9), f_memory a)]) [1] rfl
        have hDc : va_D (fun q => z0 ≤ q) [((a 9), f_memory a)] := (hD.to hAz).pick (ws' := [((a 9), f_memory a)]) [1] (by decide) rfl
        have hFc := va_free (wc := [((a 9), f_memory a)]) hD hS hA [1] rfl
        refine va_calli (va_runV (As := []) (rest := []) ⟨hx, hb, hml, hown, ht⟩ (k_X5_isMarchRight l D g z0 _ a) (cwV 0 ht (gV w_216 w_218 w_219 w_220 w_217) rfl rfl rfl (by decide +kernel) (le2 rfl rfl)) ⟨PP.blind, va_recv hK.1 hP (ci := 11) (q0 := 1) rfl rfl, PP.mk' hK hZ hz hAz hS hPc hDc⟩ rfl rfl hl.1 rfl (lv_room (Nat.le_of_ble_eq_true rfl)) dX11_marchFinds_25 (le2 rfl rfl)) hS (fun q _ h => hFc q h) hFc (fun r u t H locs ht1 hvm hw hB hz1 hk1 hS => ?_)
        obtain ⟨rfl, hw⟩ := hw
        obtain ⟨hP1, hD1⟩ := hB
        rw [ht1] at hP1
        obtain ⟨hP, hD⟩ := va_join (wr := [((a 0), f_x a)]) (w1 := [((a 9), f_memory a)]) hP hD [1] [0] rfl rfl (by decide) (by decide) hk1 hFc hP1 hD1
        have hP : va_P D vwCl [((a 0), f_x a), ((a 9), f_memory a)] H := hP
        have hD : va_D (va_A [((a 0), f_x a), ((a 9), f_memory a)] s.heap.size) [((a 0), f_x a), ((a 9), f_memory a)] := hD
        refine lv_if_ne (tgt := 39) hx hb dX11_marchFinds_28 (by decide) (fun c_294 => ?_) (fun c_294 => ?_)
        · exact absurd c_294 (by decide)
        · exact thr0 hx hb hfl hown ht hK.2.2 hZ hAz hS hl hml htab hlocks (by decide +kernel) w_69 w_70 at_X11_127 dX11_marchFinds_31 dX11_marchFinds_34 dX11_marchFinds_35 dX11_marchFinds_38 rfl rfl rfl rfl (fun t _ hF => ⟨(), trivial, (Or.inr ⟨rfl, (Or.inr (Or.inr (Or.inr (Or.inr (Or.inr (Or.inr (Or.inl ⟨c_281, c_282, c_283, c_284, c_285, c_286, c_287, c_288, c_289, c_290, c_291, c_292⟩)))))))⟩), hF⟩) (fun _ h => h) rfl rfl
      · exact absurd c_293 (by decide)
    · obtain ⟨c_295, c_296, c_297, c_298, c_299, c_300, c_301, c_302, c_303, c_304, c_305, c_306, c_307⟩ := hw
      have hP := ro1 hP hk1
      refine lv_if_ne (tgt := 21) hx hb dX11_marchFinds_10 (by decide) (fun c_308 => ?_) (fun c_308 => ?_)
      · refine lv_aload_n hx hb dX11_marchFinds_21 rfl (lv_at hl 0 rfl) ?_
        refine va_get (D := D) (ci := 17) (v := .ref (a 9)) (C := RX11) (T := TX11) (N := 11) hx hb ht in_X11 hown hK.1 hP 0 rfl rfl 8 (by decide) (ht _ w_166) (fun _ h9 => h9) rfl dX11_marchFinds_22 ?_
        have hPc : va_P D vwCl [((a 9), f_memory a)] _ := hP.sub (ws' := [((a 9), f_memory a)]) [1] rfl
        have hDc : va_D (fun q => z0 ≤ q) [((a 9), f_memory a)] := (hD.to hAz).pick (ws' := [((a 9), f_memory a)]) [1] (by decide) rfl
        have hFc := va_free (wc := [((a 9), f_memory a)]) hD hS hA [1] rfl
        refine va_calli (va_runV (As := []) (rest := []) ⟨hx, hb, hml, hown, ht⟩ (k_X5_isMarchRight l D g z0 _ a) (cwV 0 ht (gV w_216 w_218 w_219 w_220 w_217) rfl rfl rfl (by decide +kernel) (le2 rfl rfl)) ⟨PP.blind, va_recv hK.1 hP (ci := 11) (q0 := 1) rfl rfl, PP.mk' hK hZ hz hAz hS hPc hDc⟩ rfl rfl hl.1 rfl (lv_room (Nat.le_of_ble_eq_true rfl)) dX11_marchFinds_25 (le2 rfl rfl)) hS (fun q _ h => hFc q h) hFc (fun r u t H locs ht1 hvm hw hB hz1 hk1 hS => ?_)
        obtain ⟨rfl, hw⟩ := hw
        obtain ⟨hP1, hD1⟩ := hB
        rw [ht1] at hP1
        obtain ⟨hP, hD⟩ := va_join (wr := [((a 0), f_x a)]) (w1 := [((a 9), f_memory a)]) hP hD [1] [0] rfl rfl (by decide) (by decide) hk1 hFc hP1 hD1
        have hP : va_P D vwCl [((a 0), f_x a), ((a 9), f_memory a)] H := hP
        have hD : va_D (va_A [((a 0), f_x a), ((a 9), f_memory a)] s.heap.size) [((a 0), f_x a), ((a 9), f_memory a)] := hD
        refine lv_if_ne (tgt := 39) hx hb dX11_marchFinds_28 (by decide) (fun c_309 => ?_) (fun c_309 => ?_)
        · exact absurd c_309 (by decide)
        · exact thr0 hx hb hfl hown ht hK.2.2 hZ hAz hS hl hml htab hlocks (by decide +kernel) w_69 w_70 at_X11_127 dX11_marchFinds_31 dX11_marchFinds_34 dX11_marchFinds_35 dX11_marchFinds_38 rfl rfl rfl rfl (fun t _ hF => ⟨(), trivial, (Or.inr ⟨rfl, (Or.inr (Or.inr (Or.inr (Or.inr (Or.inr (Or.inr (Or.inr (Or.inl ⟨c_295, c_296, c_297, c_298, c_299, c_300, c_301, c_302, c_303, c_304, c_305, c_306, c_307⟩))))))))⟩), hF⟩) (fun _ h => h) rfl rfl
      · exact absurd c_308 (by decide)
    · obtain ⟨c_310, c_311, c_312, c_313, c_314, c_315, c_316, c_317, c_318, c_319, c_320⟩ := hw
      have hP := ro1 hP hk1
      refine lv_if_ne (tgt := 21) hx hb dX11_marchFinds_10 (by decide) (fun c_321 => ?_) (fun c_321 => ?_)
      · refine lv_aload_n hx hb dX11_marchFinds_21 rfl (lv_at hl 0 rfl) ?_
        refine va_get (D := D) (ci := 17) (v := .ref (a 9)) (C := RX11) (T := TX11) (N := 11) hx hb ht in_X11 hown hK.1 hP 0 rfl rfl 8 (by decide) (ht _ w_166) (fun _ h9 => h9) rfl dX11_marchFinds_22 ?_
        have hPc : va_P D vwCl [((a 9), f_memory a)] _ := hP.sub (ws' := [((a 9), f_memory a)]) [1] rfl
        have hDc : va_D (fun q => z0 ≤ q) [((a 9), f_memory a)] := (hD.to hAz).pick (ws' := [((a 9), f_memory a)]) [1] (by decide) rfl
        have hFc := va_free (wc := [((a 9), f_memory a)]) hD hS hA [1] rfl
        refine va_calli (va_runV (As := []) (rest := []) ⟨hx, hb, hml, hown, ht⟩ (k_X5_isMarchRight l D g z0 _ a) (cwV 0 ht (gV w_216 w_218 w_219 w_220 w_217) rfl rfl rfl (by decide +kernel) (le2 rfl rfl)) ⟨PP.blind, va_recv hK.1 hP (ci := 11) (q0 := 1) rfl rfl, PP.mk' hK hZ hz hAz hS hPc hDc⟩ rfl rfl hl.1 rfl (lv_room (Nat.le_of_ble_eq_true rfl)) dX11_marchFinds_25 (le2 rfl rfl)) hS (fun q _ h => hFc q h) hFc (fun r u t H locs ht1 hvm hw hB hz1 hk1 hS => ?_)
        obtain ⟨rfl, hw⟩ := hw
        obtain ⟨hP1, hD1⟩ := hB
        rw [ht1] at hP1
        obtain ⟨hP, hD⟩ := va_join (wr := [((a 0), f_x a)]) (w1 := [((a 9), f_memory a)]) hP hD [1] [0] rfl rfl (by decide) (by decide) hk1 hFc hP1 hD1
        have hP : va_P D vwCl [((a 0), f_x a), ((a 9), f_memory a)] H := hP
        have hD : va_D (va_A [((a 0), f_x a), ((a 9), f_memory a)] s.heap.size) [((a 0), f_x a), ((a 9), f_memory a)] := hD
        refine lv_if_ne (tgt := 39) hx hb dX11_marchFinds_28 (by decide) (fun c_322 => ?_) (fun c_322 => ?_)
        · exact absurd c_322 (by decide)
        · exact thr0 hx hb hfl hown ht hK.2.2 hZ hAz hS hl hml htab hlocks (by decide +kernel) w_69 w_70 at_X11_127 dX11_marchFinds_31 dX11_marchFinds_34 dX11_marchFinds_35 dX11_marchFinds_38 rfl rfl rfl rfl (fun t _ hF => ⟨(), trivial, (Or.inr ⟨rfl, (Or.inr (Or.inr (Or.inr (Or.inr (Or.inr (Or.inr (Or.inr (Or.inr (Or.inl ⟨c_310, c_311, c_312, c_313, c_314, c_315, c_316, c_317, c_318, c_319, c_320⟩)))))))))⟩), hF⟩) (fun _ h => h) rfl rfl
      · exact absurd c_321 (by decide)
    · obtain ⟨c_323, c_324, c_325, c_326, c_327, c_328, c_329, c_330, c_331, c_332, c_333, c_334⟩ := hw
      have hP := ro1 hP hk1
      refine lv_if_ne (tgt := 21) hx hb dX11_marchFinds_10 (by decide) (fun c_335 => ?_) (fun c_335 => ?_)
      · refine lv_aload_n hx hb dX11_marchFinds_21 rfl (lv_at hl 0 rfl) ?_
        refine va_get (D := D) (ci := 17) (v := .ref (a 9)) (C := RX11) (T := TX11) (N := 11) hx hb ht in_X11 hown hK.1 hP 0 rfl rfl 8 (by decide) (ht _ w_166) (fun _ h9 => h9) rfl dX11_marchFinds_22 ?_
        have hPc : va_P D vwCl [((a 9), f_memory a)] _ := hP.sub (ws' := [((a 9), f_memory a)]) [1] rfl
        have hDc : va_D (fun q => z0 ≤ q) [((a 9), f_memory a)] := (hD.to hAz).pick (ws' := [((a 9), f_memory a)]) [1] (by decide) rfl
        have hFc := va_free (wc := [((a 9), f_memory a)]) hD hS hA [1] rfl
        refine va_calli (va_runV (As := []) (rest := []) ⟨hx, hb, hml, hown, ht⟩ (k_X5_isMarchRight l D g z0 _ a) (cwV 0 ht (gV w_216 w_218 w_219 w_220 w_217) rfl rfl rfl (by decide +kernel) (le2 rfl rfl)) ⟨PP.blind, va_recv hK.1 hP (ci := 11) (q0 := 1) rfl rfl, PP.mk' hK hZ hz hAz hS hPc hDc⟩ rfl rfl hl.1 rfl (lv_room (Nat.le_of_ble_eq_true rfl)) dX11_marchFinds_25 (le2 rfl rfl)) hS (fun q _ h => hFc q h) hFc (fun r u t H locs ht1 hvm hw hB hz1 hk1 hS => ?_)
        obtain ⟨rfl, hw⟩ := hw
        obtain ⟨hP1, hD1⟩ := hB
        rw [ht1] at hP1
        obtain ⟨hP, hD⟩ := va_join (wr := [((a 0), f_x a)]) (w1 := [((a 9), f_memory a)]) hP hD [1] [0] rfl rfl (by decide) (by decide) hk1 hFc hP1 hD1
        have hP : va_P D vwCl [((a 0), f_x a), ((a 9), f_memory a)] H := hP
        have hD : va_D (va_A [((a 0), f_x a), ((a 9), f_memory a)] s.heap.size) [((a 0), f_x a), ((a 9), f_memory a)] := hD
        refine lv_if_ne (tgt := 39) hx hb dX11_marchFinds_28 (by decide) (fun c_336 => ?_) (fun c_336 => ?_)
        · exact absurd c_336 (by decide)
        · exact thr0 hx hb hfl hown ht hK.2.2 hZ hAz hS hl hml htab hlocks (by decide +kernel) w_69 w_70 at_X11_127 dX11_marchFinds_31 dX11_marchFinds_34 dX11_marchFinds_35 dX11_marchFinds_38 rfl rfl rfl rfl (fun t _ hF => ⟨(), trivial, (Or.inr ⟨rfl, (Or.inr (Or.inr (Or.inr (Or.inr (Or.inr (Or.inr (Or.inr (Or.inr (Or.inr (Or.inl ⟨c_323, c_324, c_325, c_326, c_327, c_328, c_329, c_330, c_331, c_332, c_333, c_334⟩))))))))))⟩), hF⟩) (fun _ h => h) rfl rfl
      · exact absurd c_335 (by decide)
    · obtain ⟨c_337, c_338, c_339, c_340, c_341, c_342, c_343, c_344, c_345, c_346⟩ := hw
      have hP := ro1 hP hk1
      refine lv_if_ne (tgt := 21) hx hb dX11_marchFinds_10 (by decide) (fun c_347 => ?_) (fun c_347 => ?_)
      · refine lv_aload_n hx hb dX11_marchFinds_21 rfl (lv_at hl 0 rfl) ?_
        refine va_get (D := D) (ci := 17) (v := .ref (a 9)) (C := RX11) (T := TX11) (N := 11) hx hb ht in_X11 hown hK.1 hP 0 rfl rfl 8 (by decide) (ht _ w_166) (fun _ h9 => h9) rfl dX11_marchFinds_22 ?_
        have hPc : va_P D vwCl [((a 9), f_memory a)] _ := hP.sub (ws' := [((a 9), f_memory a)]) [1] rfl
        have hDc : va_D (fun q => z0 ≤ q) [((a 9), f_memory a)] := (hD.to hAz).pick (ws' := [((a 9), f_memory a)]) [1] (by decide) rfl
        have hFc := va_free (wc := [((a 9), f_memory a)]) hD hS hA [1] rfl
        refine va_calli (va_runV (As := []) (rest := []) ⟨hx, hb, hml, hown, ht⟩ (k_X5_isMarchRight l D g z0 _ a) (cwV 0 ht (gV w_216 w_218 w_219 w_220 w_217) rfl rfl rfl (by decide +kernel) (le2 rfl rfl)) ⟨PP.blind, va_recv hK.1 hP (ci := 11) (q0 := 1) rfl rfl, PP.mk' hK hZ hz hAz hS hPc hDc⟩ rfl rfl hl.1 rfl (lv_room (Nat.le_of_ble_eq_true rfl)) dX11_marchFinds_25 (le2 rfl rfl)) hS (fun q _ h => hFc q h) hFc (fun r u t H locs ht1 hvm hw hB hz1 hk1 hS => ?_)
        obtain ⟨rfl, hw⟩ := hw
        obtain ⟨hP1, hD1⟩ := hB
        rw [ht1] at hP1
        obtain ⟨hP, hD⟩ := va_join (wr := [((a 0), f_x a)]) (w1 := [((a 9), f_memory a)]) hP hD [1] [0] rfl rfl (by decide) (by decide) hk1 hFc hP1 hD1
        have hP : va_P D vwCl [((a 0), f_x a), ((a 9), f_memory a)] H := hP
        have hD : va_D (va_A [((a 0), f_x a), ((a 9), f_memory a)] s.heap.size) [((a 0), f_x a), ((a 9), f_memory a)] := hD
        refine lv_if_ne (tgt := 39) hx hb dX11_marchFinds_28 (by decide) (fun c_348 => ?_) (fun c_348 => ?_)
        · exact absurd c_348 (by decide)
        · exact thr0 hx hb hfl hown ht hK.2.2 hZ hAz hS hl hml htab hlocks (by decide +kernel) w_69 w_70 at_X11_127 dX11_marchFinds_31 dX11_marchFinds_34 dX11_marchFinds_35 dX11_marchFinds_38 rfl rfl rfl rfl (fun t _ hF => ⟨(), trivial, (Or.inr ⟨rfl, (Or.inr (Or.inr (Or.inr (Or.inr (Or.inr (Or.inr (Or.inr (Or.inr (Or.inr (Or.inr ⟨c_337, c_338, c_339, c_340, c_341, c_342, c_343, c_344, c_345, c_346⟩))))))))))⟩), hF⟩) (fun _ h => h) rfl rfl
      · exact absurd c_347 (by decide)
set_option maxHeartbeats 4000000 in
set_option maxRecDepth 100000 in
theorem k_X11_meanFound (l : Launch) (hfl : l.stackTraces = false) (D : va_G) (g : Nat → ClassId) (z0 sz : Nat) (a : Nat → Nat) : vx_Met l yX11_meanFound (.code yX11_meanFound cX11_meanFound 4 (some .double) :: TG) (rmk 6 1 6 81) (va_Pc [.ref (a 0)] (PP D g z0 sz [((a 0), f_x a), ((a 2), f_book a)])) (va_Qd (fun (r : UInt64) (u : Unit) => False) (fun (_ : Unit) (_ : State) => True) (va_A [] sz)) (vx_X (fun _ : Unit => True) (fun E _ _ => (E = "java/lang/ArithmeticException" ∧ True)) (va_A [] sz)) 1 6 (va_A [] sz) := by
  refine vxm0 (cc := cX11_meanFound) (n := 4) (by decide) (Nat.le_of_ble_eq_true rfl) ?_
  intro p e s m args below meth c hx hb hr hml htab hown ht hlocks hnm hP0 hD0 hK hZ hsz hz ls hl
  subst hsz
  have hA : ∀ q : Nat, s.heap.size ≤ q → va_A [] s.heap.size q := Anw
  have hAz : ∀ q, va_A [] s.heap.size q → z0 ≤ q := A0z hz
  have hS : va_S (va_A [] s.heap.size) s.heap s.heap [] := va_S.rf
  have hl : lv_has ls 4 [(0, .ref (a 0))] := hl
  refine lv_aload_n hx hb dX11_meanFound_0 rfl (lv_at hl 0 rfl) ?_
  refine va_get (D := D) (ci := 17) (v := .ref (a 2)) (C := RX11) (T := TX11) (N := 11) hx hb ht in_X11 hown hK.1 (ro0 hP0 hS) 0 rfl rfl 1 (by decide) (ht _ w_32) (fun _ h9 => h9) rfl dX11_meanFound_1 ?_
  have hPc : va_P D vwCl [((a 2), f_book a)] _ := (ro0 hP0 hS).sub (ws' := [((a 2), f_book a)]) [1] rfl
  have hDc : va_D (fun q => z0 ≤ q) [((a 2), f_book a)] := hD0.pick (ws' := [((a 2), f_book a)]) [1] (by decide) rfl
  have hFc := AnA (ws := []) hS.1
  refine va_calli (va_runV (As := []) (rest := []) ⟨hx, hb, hml, hown, ht⟩ (k_X3_countClasses l D g z0 _ a) (cwV 0 ht (gV w_142 w_144 w_145 w_146 w_143) rfl rfl rfl (by decide +kernel) (le2 rfl rfl)) ⟨PP.blind, va_recv hK.1 (ro0 hP0 hS) (ci := 9) (q0 := 1) rfl rfl, PP.mk' hK hZ hz hAz hS hPc hDc⟩ rfl rfl hl.1 rfl (lv_room (Nat.le_of_ble_eq_true rfl)) dX11_meanFound_4 (le2 rfl rfl)) hS (fun q _ h => hFc q h) hFc (fun r u t H locs ht1 hvm hw hB hz1 hk1 hS => ?_)
  obtain ⟨rfl, hw⟩ := hw
  refine lv_istore_n (lv' := [(1, .int 0), (0, .ref (a 0))]) hx hb dX11_meanFound_7 rfl hl (by decide) rfl (fun ls hl => ?_)
  refine lv_iload_n hx hb dX11_meanFound_8 rfl (lv_at hl 0 rfl) ?_
  refine lv_if_ne (tgt := 20) hx hb dX11_meanFound_9 (by decide) (fun c_1 => ?_) (fun c_1 => ?_)
  · exact absurd c_1 (by decide)
  · exact thr0 hx hb hfl hown ht hK.2.2 hZ hAz hS hl hml htab hlocks (by decide +kernel) w_164 w_165 at_X11_269 dX11_meanFound_12 dX11_meanFound_15 dX11_meanFound_16 dX11_meanFound_19 rfl rfl rfl rfl (fun t _ hF => ⟨(), trivial, ⟨rfl, trivial⟩, hF⟩) (fun _ h => h) rfl rfl
set_option maxHeartbeats 4000000 in
set_option maxRecDepth 100000 in
theorem k_X11_mend (l : Launch) (D : va_G) (g : Nat → ClassId) (z0 sz : Nat) (a : Nat → Nat) : Met l yX11_mend (.code yX11_mend cX11_mend 2 (some .int) :: TG) (rmk 0 0 0 0) (va_Pc [.ref (a 0)] (PP D g z0 sz [((a 0), f_x a), ((a 8), f_chip a)])) (va_Qi (fun (r : Int32) (u : Unit) => (r = 0) ∧ True) (fun (u : Unit) (t : State) => va_P D vwCl [] t.heap ∧ va_D (va_A [((a 0), f_x a), ((a 8), f_chip a)] sz) []) (va_A [((a 0), f_x a), ((a 8), f_chip a)] sz)) 0 0 (va_A [((a 0), f_x a), ((a 8), f_chip a)] sz) := by
  refine met0 (cc := cX11_mend) (n := 2) (by decide) (Nat.le_of_ble_eq_true rfl) ?_
  intro p e s m args below meth c hx hb hr hml hown ht hlocks hnm hP0 hD0 hK hZ hsz hz ls hl
  subst hsz
  have hA : ∀ q : Nat, s.heap.size ≤ q → va_A [((a 0), f_x a), ((a 8), f_chip a)] s.heap.size q := Anw
  have hAz : ∀ q, va_A [((a 0), f_x a), ((a 8), f_chip a)] s.heap.size q → z0 ≤ q := Awz hz hD0
  have hS : va_S (va_A [((a 0), f_x a), ((a 8), f_chip a)] s.heap.size) s.heap s.heap [] := va_S.rf
  have hD : va_D (va_A [((a 0), f_x a), ((a 8), f_chip a)] s.heap.size) [((a 0), f_x a), ((a 8), f_chip a)] := hD0.self
  have hP : va_P D vwCl [((a 0), f_x a), ((a 8), f_chip a)] s.heap := hP0
  have hl : lv_has ls 2 [(0, .ref (a 0))] := hl
  refine lv_aload_n hx hb dX11_mend_0 rfl (lv_at hl 0 rfl) ?_
  refine va_get (D := D) (ci := 17) (v := .ref (a 8)) (C := RX11) (T := TX11) (N := 11) hx hb ht in_X11 hown hK.1 hP 0 rfl rfl 7 (by decide) (ht _ w_84) (fun _ h9 => h9) rfl dX11_mend_1 ?_
  refine va_get (D := D) (ci := 7) (v := .int 0) (C := RX1) (T := TX1) (N := 13) hx hb ht in_X1 hown hK.1 hP 1 rfl rfl 10 (by decide) (ht _ w_233) (fun _ h9 => h9) rfl dX11_mend_4 ?_
  refine lv_istore_n (lv' := [(1, .int 0), (0, .ref (a 0))]) hx hb dX11_mend_7 rfl hl (by decide) rfl (fun ls hl => ?_)
  refine lv_aload_n hx hb dX11_mend_8 rfl (lv_at hl 1 rfl) ?_
  refine va_get (D := D) (ci := 17) (v := .ref (a 8)) (C := RX11) (T := TX11) (N := 11) hx hb ht in_X11 hown hK.1 hP 0 rfl rfl 7 (by decide) (ht _ w_84) (fun _ h9 => h9) rfl dX11_mend_9 ?_
  refine lv_iconst (v := 0) hx hb dX11_mend_12 (by decide) ?_
  refine va_put (D := D) (ci := 7) (v := .int 0) (ty := .int) (C := RX1) (T := TX1) (N := 13) hx hb ht in_X1 tyX1 tyX1_ok nmX1 hown hK.1 hP hD hS 1 rfl rfl 10 (by decide) (ht _ w_233) (fun _ h9 => h9) rfl (by decide +kernel) rfl rfl (Nat.le_of_ble_eq_true rfl) dX11_mend_13 (fun H locs hP hD hS => ?_)
  have hP : va_P D vwCl [((a 0), f_x a), ((a 8), .inr (7, [.ref (a 1), .ref (a 2), .ref (a 3), .ref (a 4), .ref (a 53), .ref (a 54), .ref (a 55), .ref (a 56), .ref (a 57), .ref (a 58), .int 0, .int (-1), .int 0]))] H := hP
  have hD : va_D (va_A [((a 0), f_x a), ((a 8), f_chip a)] s.heap.size) [((a 0), f_x a), ((a 8), .inr (7, [.ref (a 1), .ref (a 2), .ref (a 3), .ref (a 4), .ref (a 53), .ref (a 54), .ref (a 55), .ref (a 56), .ref (a 57), .ref (a 58), .int 0, .int (-1), .int 0]))] := hD
  refine lv_iload_n hx hb dX11_mend_16 rfl (lv_at hl 0 rfl) ?_
  have hP9 := hP.sub (ws' := []) [] rfl
  have hD9 := hD.sub (ws' := []) [] (by decide) rfl
  refine W.widen (k := 0) (n := 0) (Nat.le_of_ble_eq_true rfl) (Nat.le_of_ble_eq_true rfl) ?_
  exact W.iret (v := 0) hx hb hr (fun t ht9 hW9 => ⟨⟨0, (), rfl, ⟨rfl, trivial⟩, ⟨(by rw [ht9]; exact hP9), hD9⟩⟩, hS.F ht9⟩) hS.2.2 dX11_mend_17 hlocks
set_option maxHeartbeats 4000000 in
set_option maxRecDepth 100000 in
theorem k_X11_merge (l : Launch) (hfl : l.stackTraces = false) (D : va_G) (g : Nat → ClassId) (z0 sz : Nat) (a : Nat → Nat) (p0 : Int32) (p1 : Int32) : vx_Met l yX11_merge (.code yX11_merge cX11_merge 3 (some .int) :: TG) (rmk 7 1 6 102) (va_Pc [.ref (a 0), .int p0, .int p1] (PP D g z0 sz [((a 0), f_x a), ((a 3), f_rows a)])) (va_Qi (fun (r : Int32) (u : Unit) => False) (fun (_ : Unit) (_ : State) => True) (va_A [] sz)) (vx_X (fun _ : Unit => True) (fun E _ _ => (E = "java/lang/IndexOutOfBoundsException" ∧ True)) (va_A [] sz)) 1 6 (va_A [] sz) := by
  refine vxm0 (cc := cX11_merge) (n := 3) (by decide) (Nat.le_of_ble_eq_true rfl) ?_
  intro p e s m args below meth c hx hb hr hml htab hown ht hlocks hnm hP0 hD0 hK hZ hsz hz ls hl
  subst hsz
  have hA : ∀ q : Nat, s.heap.size ≤ q → va_A [] s.heap.size q := Anw
  have hAz : ∀ q, va_A [] s.heap.size q → z0 ≤ q := A0z hz
  have hS : va_S (va_A [] s.heap.size) s.heap s.heap [] := va_S.rf
  have hl : lv_has ls 3 [(0, .ref (a 0)), (1, .int p0), (2, .int p1)] := hl
  refine lv_aload_n hx hb dX11_merge_0 rfl (lv_at hl 0 rfl) ?_
  refine lv_iload_n hx hb dX11_merge_1 rfl (lv_at hl 1 rfl) ?_
  have hPc : va_P D vwCl [((a 0), f_x a), ((a 3), f_rows a)] _ := (ro0 hP0 hS).sub (ws' := [((a 0), f_x a), ((a 3), f_rows a)]) [0, 1] rfl
  have hDc : va_D (fun q => z0 ≤ q) [((a 0), f_x a), ((a 3), f_rows a)] := hD0.pick (ws' := [((a 0), f_x a), ((a 3), f_rows a)]) [0, 1] (by decide) rfl
  have hFc := AnA (ws := []) hS.1
  refine vx_callv (vx_runV (As := [.int p0]) (rest := []) ⟨hx, hb, hml, hown, ht⟩ (k_X11_needPattern l hfl D g z0 _ a p0) (cwV 1 ht (gV w_183 w_185 w_186 w_31 w_184) rfl rfl rfl (by decide +kernel) (le2 rfl rfl)) ⟨PP.blind, va_recv hK.1 (ro0 hP0 hS) (ci := 17) (q0 := 0) rfl rfl, PP.mk' hK hZ hz hAz hS hPc hDc⟩ rfl rfl hl.1 rfl (lv_room (Nat.le_of_ble_eq_true rfl)) dX11_merge_2 (le2 rfl rfl)) hS (fun q _ h => hFc q h) hFc (fun q _ h => hFc q h) (fun E ce q9 u t H locs ht1 hvm hw hB hz1 hk1 hS hcell hv9 hcl => ?_) (fun u t H locs ht1 hvm hw hB hz1 hk1 hS => ?_)
  · obtain ⟨rfl, hB⟩ := hB
    exact out0 htab hlocks hS hcell hv9 hcl (fun t _ hF => ⟨(), trivial, ⟨rfl, trivial⟩, hF⟩) (fun _ h => h) rfl rfl
  · exact hw.elim
