theorem w_303 : Cond.fieldLink RX15 1 "StuckatBenchModel" "thrown" "I" ∈ TG := tg (sg_9 _ (List.mem_of_getElem? (i := 113) (by decide +kernel))) (by decide +kernel)
theorem in_X15 : ∀ w ∈ u_ws RX15 TX15 29, w ∈ TG := fun w h => tg (List.mem_append_right _ ((goodIn_r (big := tables_1) _ [2062, 2064, 2066, 2068, 2070, 2072, 2074, 2076, 2078, 2080, 2082, 2084, 2086, 2088, 2090, 2092, 2094, 2096, 2098, 2100, 2102, 2104, 2106, 2108, 2110, 2112, 2114, 2116, 2118] (by decide +kernel) (by decide +kernel) w h).1)) ((List.all_eq_true.mp (by decide +kernel : (u_ws RX15 TX15 29).all goodWord = true)) w h)
theorem w_304 : Cond.fieldLink RX15 32 "StuckatBenchModel" "patterns" "Ljava/util/List;" ∈ TG := tg (sg_9 _ (List.mem_of_getElem? (i := 119) (by decide +kernel))) (by decide +kernel)
theorem w_305 : Cond.classLink RJx4a65c 267 RJx35411 ∈ TG := tg (sg_11 _ (List.mem_of_getElem? (i := 15) (by decide +kernel))) (by decide +kernel)
theorem w_306 : Cond.instantiable RJx35411 4 ∈ TG := tg (sg_11 _ (List.mem_of_getElem? (i := 16) (by decide +kernel))) (by decide +kernel)
theorem w_307 : Cond.initialized RJx35411 ∈ TG := tg (sg_1 _ (List.mem_of_getElem? (i := 39) (by decide +kernel))) (by decide +kernel)
theorem in_Jx35411 : ∀ w ∈ u_ws RJx35411 TJx35411 4, w ∈ TG := fun w h => tg (List.mem_append_right _ ((goodIn_r (big := tables_1) _ [2425, 2427, 2429, 2431] (by decide +kernel) (by decide +kernel) w h).1)) ((List.all_eq_true.mp (by decide +kernel : (u_ws RJx35411 TJx35411 4).all goodWord = true)) w h)
theorem w_308 : Cond.fieldLink RJx35411 1 "java/util/ArrayList$Itr" "this$0" "Ljava/util/ArrayList;" ∈ TG := tg (sg_11 _ (List.mem_of_getElem? (i := 24) (by decide +kernel))) (by decide +kernel)
theorem w_309 : Cond.code ⟨"java/lang/Object", "<init>", "()V"⟩ object_method_1_code 1 none ∈ TG := tg (sg_1 _ (List.mem_of_getElem? (i := 54) (by decide +kernel))) (by decide +kernel)
theorem w_310 : Cond.methodLink RJx35411 7 ⟨"java/lang/Object", "<init>", "()V"⟩ ∈ TG := tg (sg_11 _ (List.mem_of_getElem? (i := 20) (by decide +kernel))) (by decide +kernel)
theorem w_311 : Cond.instanceMethod ⟨"java/lang/Object", "<init>", "()V"⟩ ∈ TG := tg (sg_1 _ (List.mem_of_getElem? (i := 53) (by decide +kernel))) (by decide +kernel)
theorem w_312 : Cond.fieldLink RJx35411 13 "java/util/ArrayList$Itr" "lastRet" "I" ∈ TG := tg (sg_11 _ (List.mem_of_getElem? (i := 22) (by decide +kernel))) (by decide +kernel)
theorem in_Jx4a65c : ∀ w ∈ u_ws RJx4a65c TJx4a65c 3, w ∈ TG := fun w h => tg (List.mem_append_right _ ((goodIn_r (big := tables_1) _ [2024, 2020, 2022] (by decide +kernel) (by decide +kernel) w h).1)) ((List.all_eq_true.mp (by decide +kernel : (u_ws RJx4a65c TJx4a65c 3).all goodWord = true)) w h)
theorem w_313 : Cond.fieldLink RJx35411 17 "java/util/ArrayList" "modCount" "I" ∈ TG := tg (sg_9 _ (List.mem_of_getElem? (i := 97) (by decide +kernel))) (by decide +kernel)
theorem w_314 : Cond.sameField "java/util/ArrayList" "java/util/AbstractList" "modCount" "I" ∈ TG := tg (sg_9 _ (List.mem_of_getElem? (i := 98) (by decide +kernel))) (by decide +kernel)
theorem w_315 : Cond.fieldLink RJx35411 22 "java/util/ArrayList$Itr" "expectedModCount" "I" ∈ TG := tg (sg_11 _ (List.mem_of_getElem? (i := 23) (by decide +kernel))) (by decide +kernel)
theorem w_316 : Cond.methodLink RJx4a65c 269 yJx35411_init_45d68 ∈ TG := tg (sg_11 _ (List.mem_of_getElem? (i := 17) (by decide +kernel))) (by decide +kernel)
theorem w_317 : Cond.code yJx35411_init_45d68 cJx35411_init_45d68 2 none ∈ TG := tg (sg_11 _ (List.mem_of_getElem? (i := 19) (by decide +kernel))) (by decide +kernel)
theorem w_318 : Cond.instanceMethod yJx35411_init_45d68 ∈ TG := tg (sg_11 _ (List.mem_of_getElem? (i := 18) (by decide +kernel))) (by decide +kernel)
theorem w_319 : Cond.methodLink RX15 156 ⟨"java/util/List", "iterator", "()Ljava/util/Iterator;"⟩ ∈ TG := tg (sg_11 _ (List.mem_of_getElem? (i := 7) (by decide +kernel))) (by decide +kernel)
theorem w_320 : Cond.code yJx4a65c_iterator_32c93 cJx4a65c_iterator_32c93 1 (some (.object "java/util/Iterator")) ∈ TG := tg (sg_11 _ (List.mem_of_getElem? (i := 14) (by decide +kernel))) (by decide +kernel)
theorem w_321 : Cond.selects RJx4a65c ⟨"java/util/List", "iterator", "()Ljava/util/Iterator;"⟩ yJx4a65c_iterator_32c93 ∈ TG := tg (sg_11 _ (List.mem_of_getElem? (i := 10) (by decide +kernel))) (by decide +kernel)
theorem w_322 : Cond.instanceMethod yJx4a65c_iterator_32c93 ∈ TG := tg (sg_11 _ (List.mem_of_getElem? (i := 12) (by decide +kernel))) (by decide +kernel)
theorem w_323 : Cond.initialized RJx4a65c ∈ TG := tg (sg_1 _ (List.mem_of_getElem? (i := 17) (by decide +kernel))) (by decide +kernel)
theorem w_324 : Cond.fieldLink RJx35411 25 "java/util/ArrayList$Itr" "cursor" "I" ∈ TG := tg (sg_11 _ (List.mem_of_getElem? (i := 21) (by decide +kernel))) (by decide +kernel)
theorem w_325 : Cond.fieldLinkNest RJx35411 28 "java/util/ArrayList" "size" "I" "java/util/ArrayList" ∈ NWL := List.mem_filter.mpr ⟨(sh_9 _ (List.mem_of_getElem? (i := 94) (by decide +kernel))), by decide +kernel⟩
theorem w_326 : Cond.methodLink RX15 160 ⟨"java/util/Iterator", "hasNext", "()Z"⟩ ∈ TG := tg (sg_11 _ (List.mem_of_getElem? (i := 35) (by decide +kernel))) (by decide +kernel)
theorem w_327 : Cond.code yJx35411_hasNext_aae02 cJx35411_hasNext_aae02 1 (some .boolean) ∈ TG := tg (sg_11 _ (List.mem_of_getElem? (i := 43) (by decide +kernel))) (by decide +kernel)
theorem w_328 : Cond.selects RJx35411 ⟨"java/util/Iterator", "hasNext", "()Z"⟩ yJx35411_hasNext_aae02 ∈ TG := tg (sg_11 _ (List.mem_of_getElem? (i := 39) (by decide +kernel))) (by decide +kernel)
theorem w_329 : Cond.instanceMethod yJx35411_hasNext_aae02 ∈ TG := tg (sg_11 _ (List.mem_of_getElem? (i := 41) (by decide +kernel))) (by decide +kernel)
theorem w_330 : Cond.methodLink RX15 389 yX15_signed ∈ TG := tg (sg_12 _ (List.mem_of_getElem? (i := 176) (by decide +kernel))) (by decide +kernel)
theorem w_331 : Cond.code yX15_signed cX15_signed 7 (some .int) ∈ TG := tg (sg_12 _ (List.mem_of_getElem? (i := 179) (by decide +kernel))) (by decide +kernel)
theorem w_332 : Cond.instanceMethod yX15_signed ∈ TG := tg (sg_12 _ (List.mem_of_getElem? (i := 178) (by decide +kernel))) (by decide +kernel)
theorem w_333 : Cond.selects RX15 yX15_signed yX15_signed ∈ TG := tg (List.mem_append_left _ (List.mem_map.mpr ⟨(yX15_signed, 29), List.mem_of_getElem? (i := 111) (by decide +kernel), rfl⟩)) (by decide +kernel)
theorem w_334 : Cond.initialized RX15 ∈ TG := tg (sg_1 _ (List.mem_of_getElem? (i := 14) (by decide +kernel))) (by decide +kernel)
theorem w_335 : Cond.classLink RX15 13 RJx4a65c ∈ TG := tg (sg_9 _ (List.mem_of_getElem? (i := 78) (by decide +kernel))) (by decide +kernel)
theorem w_336 : Cond.instantiable RJx4a65c 3 ∈ TG := tg (sg_9 _ (List.mem_of_getElem? (i := 79) (by decide +kernel))) (by decide +kernel)
theorem w_337 : Cond.methodLink RJxa1e45 1 ⟨"java/lang/Object", "<init>", "()V"⟩ ∈ TG := tg (sg_9 _ (List.mem_of_getElem? (i := 89) (by decide +kernel))) (by decide +kernel)
theorem w_338 : Cond.methodLink RJxc12de 1 yJxa1e45_init_da8c8 ∈ TG := tg (sg_9 _ (List.mem_of_getElem? (i := 86) (by decide +kernel))) (by decide +kernel)
theorem w_339 : Cond.code yJxa1e45_init_da8c8 cJxa1e45_init_da8c8 1 none ∈ TG := tg (sg_9 _ (List.mem_of_getElem? (i := 88) (by decide +kernel))) (by decide +kernel)
theorem w_340 : Cond.initialized RJxa1e45 ∈ TG := tg (sg_1 _ (List.mem_of_getElem? (i := 15) (by decide +kernel))) (by decide +kernel)
theorem w_341 : Cond.instanceMethod yJxa1e45_init_da8c8 ∈ TG := tg (sg_9 _ (List.mem_of_getElem? (i := 87) (by decide +kernel))) (by decide +kernel)
theorem w_342 : Cond.fieldLink RJxc12de 7 "java/util/AbstractList" "modCount" "I" ∈ TG := tg (sg_9 _ (List.mem_of_getElem? (i := 96) (by decide +kernel))) (by decide +kernel)
theorem w_343 : Cond.methodLink RJx4a65c 1 yJxc12de_init_da8c8 ∈ TG := tg (sg_9 _ (List.mem_of_getElem? (i := 83) (by decide +kernel))) (by decide +kernel)
theorem w_344 : Cond.code yJxc12de_init_da8c8 cJxc12de_init_da8c8 1 none ∈ TG := tg (sg_9 _ (List.mem_of_getElem? (i := 85) (by decide +kernel))) (by decide +kernel)
theorem w_345 : Cond.initialized RJxc12de ∈ TG := tg (sg_1 _ (List.mem_of_getElem? (i := 16) (by decide +kernel))) (by decide +kernel)
theorem w_346 : Cond.instanceMethod yJxc12de_init_da8c8 ∈ TG := tg (sg_9 _ (List.mem_of_getElem? (i := 84) (by decide +kernel))) (by decide +kernel)
theorem w_347 : Cond.fieldLink RJx4a65c 39 "java/util/ArrayList" "DEFAULTCAPACITY_EMPTY_ELEMENTDATA" "[Ljava/lang/Object;" ∈ TG := tg (sg_9 _ (List.mem_of_getElem? (i := 90) (by decide +kernel))) (by decide +kernel)
theorem w_348 : Cond.fieldLink RJx4a65c 9 "java/util/ArrayList" "elementData" "[Ljava/lang/Object;" ∈ TG := tg (sg_9 _ (List.mem_of_getElem? (i := 92) (by decide +kernel))) (by decide +kernel)
theorem w_349 : Cond.methodLink RX15 15 yJx4a65c_init_da8c8 ∈ TG := tg (sg_9 _ (List.mem_of_getElem? (i := 80) (by decide +kernel))) (by decide +kernel)
theorem w_350 : Cond.code yJx4a65c_init_da8c8 cJx4a65c_init_da8c8 1 none ∈ TG := tg (sg_9 _ (List.mem_of_getElem? (i := 82) (by decide +kernel))) (by decide +kernel)
theorem w_351 : Cond.instanceMethod yJx4a65c_init_da8c8 ∈ TG := tg (sg_9 _ (List.mem_of_getElem? (i := 81) (by decide +kernel))) (by decide +kernel)
theorem w_352 : Cond.fieldLink RX15 188 "StuckatBenchModel" "stuck" "I" ∈ TG := tg (sg_9 _ (List.mem_of_getElem? (i := 121) (by decide +kernel))) (by decide +kernel)
theorem w_353 : Cond.arrayClass .int ∈ TG := tg (sg_1 _ (List.mem_of_getElem? (i := 167) (by decide +kernel))) (by decide +kernel)
theorem w_354 : Cond.fieldLink RX15 16 "StuckatBenchModel" "lines" "Ljava/util/List;" ∈ TG := tg (sg_9 _ (List.mem_of_getElem? (i := 114) (by decide +kernel))) (by decide +kernel)
theorem w_355 : Cond.fieldLink RJx4a65c 48 "java/util/ArrayList" "size" "I" ∈ TG := tg (sg_9 _ (List.mem_of_getElem? (i := 95) (by decide +kernel))) (by decide +kernel)
theorem w_356 : Cond.methodLink RX15 92 ⟨"java/util/List", "size", "()I"⟩ ∈ TG := tg (sg_9 _ (List.mem_of_getElem? (i := 210) (by decide +kernel))) (by decide +kernel)
theorem w_357 : Cond.code yJx4a65c_size_8abf5 cJx4a65c_size_8abf5 1 (some .int) ∈ TG := tg (sg_9 _ (List.mem_of_getElem? (i := 218) (by decide +kernel))) (by decide +kernel)
theorem w_358 : Cond.selects RJx4a65c ⟨"java/util/List", "size", "()I"⟩ yJx4a65c_size_8abf5 ∈ TG := tg (sg_9 _ (List.mem_of_getElem? (i := 214) (by decide +kernel))) (by decide +kernel)
theorem w_359 : Cond.instanceMethod yJx4a65c_size_8abf5 ∈ TG := tg (sg_9 _ (List.mem_of_getElem? (i := 216) (by decide +kernel))) (by decide +kernel)
theorem w_360 : Cond.methodLink RX15 314 yX15_firsts ∈ TG := tg (sg_11 _ (List.mem_of_getElem? (i := 219) (by decide +kernel))) (by decide +kernel)
theorem w_361 : Cond.code yX15_firsts cX15_firsts 8 (some (.array .int)) ∈ TG := tg (sg_11 _ (List.mem_of_getElem? (i := 222) (by decide +kernel))) (by decide +kernel)
theorem w_362 : Cond.instanceMethod yX15_firsts ∈ TG := tg (sg_11 _ (List.mem_of_getElem? (i := 221) (by decide +kernel))) (by decide +kernel)
theorem w_363 : Cond.selects RX15 yX15_firsts yX15_firsts ∈ TG := tg (List.mem_append_left _ (List.mem_map.mpr ⟨(yX15_firsts, 29), List.mem_of_getElem? (i := 98) (by decide +kernel), rfl⟩)) (by decide +kernel)
theorem w_364 : Cond.methodLink RX15 318 yX15_allClasses ∈ TG := tg (sg_12 _ (List.mem_of_getElem? (i := 3) (by decide +kernel))) (by decide +kernel)
theorem w_365 : Cond.code yX15_allClasses cX15_allClasses 4 (some (.object "java/util/List")) ∈ TG := tg (sg_12 _ (List.mem_of_getElem? (i := 6) (by decide +kernel))) (by decide +kernel)
theorem w_366 : Cond.instanceMethod yX15_allClasses ∈ TG := tg (sg_12 _ (List.mem_of_getElem? (i := 5) (by decide +kernel))) (by decide +kernel)
theorem w_367 : Cond.selects RX15 yX15_allClasses yX15_allClasses ∈ TG := tg (List.mem_append_left _ (List.mem_map.mpr ⟨(yX15_allClasses, 29), List.mem_of_getElem? (i := 101) (by decide +kernel), rfl⟩)) (by decide +kernel)
theorem w_368 : Cond.fieldLink RX15 26 "StuckatBenchModel" "faults" "Ljava/util/List;" ∈ TG := tg (sg_9 _ (List.mem_of_getElem? (i := 117) (by decide +kernel))) (by decide +kernel)
theorem w_369 : Cond.methodLink RX15 98 yX15_isBetween ∈ TG := tg (sg_10 _ (List.mem_of_getElem? (i := 208) (by decide +kernel))) (by decide +kernel)
theorem w_370 : Cond.code yX15_isBetween cX15_isBetween 3 (some .boolean) ∈ TG := tg (sg_10 _ (List.mem_of_getElem? (i := 210) (by decide +kernel))) (by decide +kernel)
theorem w_371 : Cond.static yX15_isBetween ∈ TG := tg (sg_10 _ (List.mem_of_getElem? (i := 209) (by decide +kernel))) (by decide +kernel)
theorem w_372 : Cond.methodLink RX15 286 yX15_isFault ∈ TG := tg (sg_11 _ (List.mem_of_getElem? (i := 158) (by decide +kernel))) (by decide +kernel)
theorem w_373 : Cond.code yX15_isFault cX15_isFault 2 (some .boolean) ∈ TG := tg (sg_11 _ (List.mem_of_getElem? (i := 161) (by decide +kernel))) (by decide +kernel)
theorem w_374 : Cond.instanceMethod yX15_isFault ∈ TG := tg (sg_11 _ (List.mem_of_getElem? (i := 160) (by decide +kernel))) (by decide +kernel)
theorem w_375 : Cond.selects RX15 yX15_isFault yX15_isFault ∈ TG := tg (List.mem_append_left _ (List.mem_map.mpr ⟨(yX15_isFault, 29), List.mem_of_getElem? (i := 89) (by decide +kernel), rfl⟩)) (by decide +kernel)
theorem w_376 : Cond.methodLink RX15 106 yX15_isWrong ∈ TG := tg (sg_9 _ (List.mem_of_getElem? (i := 219) (by decide +kernel))) (by decide +kernel)
theorem w_377 : Cond.code yX15_isWrong cX15_isWrong 2 (some .boolean) ∈ TG := tg (sg_9 _ (List.mem_of_getElem? (i := 222) (by decide +kernel))) (by decide +kernel)
theorem w_378 : Cond.instanceMethod yX15_isWrong ∈ TG := tg (sg_9 _ (List.mem_of_getElem? (i := 221) (by decide +kernel))) (by decide +kernel)
theorem w_379 : Cond.selects RX15 yX15_isWrong yX15_isWrong ∈ TG := tg (List.mem_append_left _ (List.mem_map.mpr ⟨(yX15_isWrong, 29), List.mem_of_getElem? (i := 77) (by decide +kernel), rfl⟩)) (by decide +kernel)
theorem w_380 : Cond.fieldLink RX15 492 "StuckatBenchModel" "wires" "I" ∈ TG := tg (sg_9 _ (List.mem_of_getElem? (i := 135) (by decide +kernel))) (by decide +kernel)
theorem w_381 : Cond.fieldLink RX15 83 "StuckatBenchModel" "cores" "Ljava/util/List;" ∈ TG := tg (sg_9 _ (List.mem_of_getElem? (i := 139) (by decide +kernel))) (by decide +kernel)
theorem w_382 : Cond.fieldLink RX15 23 "StuckatBenchModel" "cells" "Ljava/util/List;" ∈ TG := tg (sg_9 _ (List.mem_of_getElem? (i := 116) (by decide +kernel))) (by decide +kernel)
theorem w_383 : Cond.fieldLink RX15 102 "StuckatBenchModel" "isClosed" "Z" ∈ TG := tg (sg_9 _ (List.mem_of_getElem? (i := 120) (by decide +kernel))) (by decide +kernel)
theorem w_384 : Cond.methodLink RX15 393 yX15_isNoStuck ∈ TG := tg (sg_12 _ (List.mem_of_getElem? (i := 197) (by decide +kernel))) (by decide +kernel)
theorem w_385 : Cond.code yX15_isNoStuck cX15_isNoStuck 2 (some .boolean) ∈ TG := tg (sg_12 _ (List.mem_of_getElem? (i := 200) (by decide +kernel))) (by decide +kernel)
theorem w_386 : Cond.instanceMethod yX15_isNoStuck ∈ TG := tg (sg_12 _ (List.mem_of_getElem? (i := 199) (by decide +kernel))) (by decide +kernel)
theorem w_387 : Cond.selects RX15 yX15_isNoStuck yX15_isNoStuck ∈ TG := tg (List.mem_append_left _ (List.mem_map.mpr ⟨(yX15_isNoStuck, 29), List.mem_of_getElem? (i := 112) (by decide +kernel), rfl⟩)) (by decide +kernel)
theorem w_388 : Cond.fieldLink RJ0 38 "java/lang/String" "COMPACT_STRINGS" "Z" ∈ TG := tg (sg_10 _ (List.mem_of_getElem? (i := 134) (by decide +kernel))) (by decide +kernel)
theorem w_389 : Cond.fieldLink RJ0 15 "java/lang/String" "coder" "B" ∈ TG := tg (sg_13 _ (List.mem_of_getElem? (i := 216) (by decide +kernel))) (by decide +kernel)
theorem w_390 : Cond.methodLink RJ0 492 yJ0_isLatin1_aae02 ∈ TG := tg (sg_10 _ (List.mem_of_getElem? (i := 130) (by decide +kernel))) (by decide +kernel)
theorem w_391 : Cond.code yJ0_isLatin1_aae02 cJ0_isLatin1_aae02 1 (some .boolean) ∈ TG := tg (sg_10 _ (List.mem_of_getElem? (i := 133) (by decide +kernel))) (by decide +kernel)
theorem w_392 : Cond.instanceMethod yJ0_isLatin1_aae02 ∈ TG := tg (sg_10 _ (List.mem_of_getElem? (i := 131) (by decide +kernel))) (by decide +kernel)
theorem w_393 : Cond.selects RJ0 yJ0_isLatin1_aae02 yJ0_isLatin1_aae02 ∈ TG := tg (sg_10 _ (List.mem_of_getElem? (i := 132) (by decide +kernel))) (by decide +kernel)
theorem w_394 : Cond.initialized RJ0 ∈ TG := tg (sg_1 _ (List.mem_of_getElem? (i := 32) (by decide +kernel))) (by decide +kernel)
theorem w_395 : Cond.fieldLink RJ0 9 "java/lang/String" "value" "[B" ∈ TG := tg (sg_13 _ (List.mem_of_getElem? (i := 215) (by decide +kernel))) (by decide +kernel)
theorem w_396 : Cond.methodLink RJ0 335 yJ0_coder_7d493 ∈ TG := tg (sg_10 _ (List.mem_of_getElem? (i := 140) (by decide +kernel))) (by decide +kernel)
theorem w_397 : Cond.code yJ0_coder_7d493 cJ0_coder_7d493 1 (some .byte) ∈ TG := tg (sg_10 _ (List.mem_of_getElem? (i := 143) (by decide +kernel))) (by decide +kernel)
theorem w_398 : Cond.instanceMethod yJ0_coder_7d493 ∈ TG := tg (sg_10 _ (List.mem_of_getElem? (i := 141) (by decide +kernel))) (by decide +kernel)
theorem w_399 : Cond.selects RJ0 yJ0_coder_7d493 yJ0_coder_7d493 ∈ TG := tg (sg_10 _ (List.mem_of_getElem? (i := 142) (by decide +kernel))) (by decide +kernel)
theorem w_400 : Cond.methodLink RJ0 505 yJ0_length_8abf5 ∈ TG := tg (sg_10 _ (List.mem_of_getElem? (i := 136) (by decide +kernel))) (by decide +kernel)
theorem w_401 : Cond.code yJ0_length_8abf5 cJ0_length_8abf5 1 (some .int) ∈ TG := tg (sg_10 _ (List.mem_of_getElem? (i := 139) (by decide +kernel))) (by decide +kernel)
theorem w_402 : Cond.instanceMethod yJ0_length_8abf5 ∈ TG := tg (sg_10 _ (List.mem_of_getElem? (i := 137) (by decide +kernel))) (by decide +kernel)
theorem w_403 : Cond.selects RJ0 yJ0_length_8abf5 yJ0_length_8abf5 ∈ TG := tg (sg_10 _ (List.mem_of_getElem? (i := 138) (by decide +kernel))) (by decide +kernel)
theorem w_404 : Cond.methodLink RJ1 88 yJ1_canEncode_9a6ad ∈ TG := tg (sg_10 _ (List.mem_of_getElem? (i := 147) (by decide +kernel))) (by decide +kernel)
theorem w_405 : Cond.code yJ1_canEncode_9a6ad cJ1_canEncode_9a6ad 1 (some .boolean) ∈ TG := tg (sg_10 _ (List.mem_of_getElem? (i := 149) (by decide +kernel))) (by decide +kernel)
theorem w_406 : Cond.static yJ1_canEncode_9a6ad ∈ TG := tg (sg_10 _ (List.mem_of_getElem? (i := 148) (by decide +kernel))) (by decide +kernel)
theorem w_407 : Cond.initialized RJ1 ∈ TG := tg (sg_1 _ (List.mem_of_getElem? (i := 34) (by decide +kernel))) (by decide +kernel)
theorem w_408 : Cond.methodLink RJ1 92 yJ9_max_7cf53 ∈ TG := tg (sg_10 _ (List.mem_of_getElem? (i := 150) (by decide +kernel))) (by decide +kernel)
theorem w_409 : Cond.static yJ9_max_7cf53 ∈ TG := tg (sg_6 _ (List.mem_of_getElem? (i := 64) (by decide +kernel))) (by decide +kernel)
theorem w_410 : Cond.initialized RJ9 ∈ TG := tg (sg_1 _ (List.mem_of_getElem? (i := 28) (by decide +kernel))) (by decide +kernel)
theorem w_411 : Cond.code yJ9_max_7cf53 cJ9_max_7cf53 2 (some .int) ∈ TG := tg (sg_6 _ (List.mem_of_getElem? (i := 65) (by decide +kernel))) (by decide +kernel)
theorem w_412 : Cond.methodLink RJ1 38 yJ9_min_7cf53 ∈ TG := tg (sg_10 _ (List.mem_of_getElem? (i := 151) (by decide +kernel))) (by decide +kernel)
theorem w_413 : Cond.static yJ9_min_7cf53 ∈ TG := tg (sg_3 _ (List.mem_of_getElem? (i := 194) (by decide +kernel))) (by decide +kernel)
theorem w_414 : Cond.code yJ9_min_7cf53 cJ9_min_7cf53 2 (some .int) ∈ TG := tg (sg_3 _ (List.mem_of_getElem? (i := 195) (by decide +kernel))) (by decide +kernel)
theorem w_415 : Cond.methodLink RJ1 95 yJ1_indexOfChar_4cfef ∈ TG := tg (sg_10 _ (List.mem_of_getElem? (i := 152) (by decide +kernel))) (by decide +kernel)
theorem w_416 : Cond.code yJ1_indexOfChar_4cfef cJ1_indexOfChar_4cfef 6 (some .int) ∈ TG := tg (sg_10 _ (List.mem_of_getElem? (i := 154) (by decide +kernel))) (by decide +kernel)
theorem w_417 : Cond.static yJ1_indexOfChar_4cfef ∈ TG := tg (sg_10 _ (List.mem_of_getElem? (i := 153) (by decide +kernel))) (by decide +kernel)
theorem w_418 : Cond.methodLink RJ0 637 yJ1_indexOf_4cfef ∈ TG := tg (sg_10 _ (List.mem_of_getElem? (i := 144) (by decide +kernel))) (by decide +kernel)
theorem w_419 : Cond.code yJ1_indexOf_4cfef cJ1_indexOf_4cfef 4 (some .int) ∈ TG := tg (sg_10 _ (List.mem_of_getElem? (i := 146) (by decide +kernel))) (by decide +kernel)
theorem w_420 : Cond.static yJ1_indexOf_4cfef ∈ TG := tg (sg_10 _ (List.mem_of_getElem? (i := 145) (by decide +kernel))) (by decide +kernel)
theorem w_421 : Cond.methodLink RJ0 633 yJ0_indexOf_7cf53 ∈ TG := tg (sg_10 _ (List.mem_of_getElem? (i := 126) (by decide +kernel))) (by decide +kernel)
theorem w_422 : Cond.code yJ0_indexOf_7cf53 cJ0_indexOf_7cf53 3 (some .int) ∈ TG := tg (sg_10 _ (List.mem_of_getElem? (i := 129) (by decide +kernel))) (by decide +kernel)
theorem w_423 : Cond.instanceMethod yJ0_indexOf_7cf53 ∈ TG := tg (sg_10 _ (List.mem_of_getElem? (i := 127) (by decide +kernel))) (by decide +kernel)
theorem w_424 : Cond.selects RJ0 yJ0_indexOf_7cf53 yJ0_indexOf_7cf53 ∈ TG := tg (sg_10 _ (List.mem_of_getElem? (i := 128) (by decide +kernel))) (by decide +kernel)
theorem w_425 : Cond.methodLink RX15 134 yJ0_indexOf_0f7a4 ∈ TG := tg (sg_10 _ (List.mem_of_getElem? (i := 122) (by decide +kernel))) (by decide +kernel)
theorem w_426 : Cond.code yJ0_indexOf_0f7a4 cJ0_indexOf_0f7a4 2 (some .int) ∈ TG := tg (sg_10 _ (List.mem_of_getElem? (i := 125) (by decide +kernel))) (by decide +kernel)
theorem w_427 : Cond.instanceMethod yJ0_indexOf_0f7a4 ∈ TG := tg (sg_10 _ (List.mem_of_getElem? (i := 123) (by decide +kernel))) (by decide +kernel)
theorem w_428 : Cond.selects RJ0 yJ0_indexOf_0f7a4 yJ0_indexOf_0f7a4 ∈ TG := tg (sg_10 _ (List.mem_of_getElem? (i := 124) (by decide +kernel))) (by decide +kernel)
theorem w_429 : Cond.methodLink RX15 140 yX15_isLine ∈ TG := tg (sg_10 _ (List.mem_of_getElem? (i := 204) (by decide +kernel))) (by decide +kernel)
theorem w_430 : Cond.code yX15_isLine cX15_isLine 2 (some .boolean) ∈ TG := tg (sg_10 _ (List.mem_of_getElem? (i := 207) (by decide +kernel))) (by decide +kernel)
theorem w_431 : Cond.instanceMethod yX15_isLine ∈ TG := tg (sg_10 _ (List.mem_of_getElem? (i := 206) (by decide +kernel))) (by decide +kernel)
theorem w_432 : Cond.selects RX15 yX15_isLine yX15_isLine ∈ TG := tg (List.mem_append_left _ (List.mem_map.mpr ⟨(yX15_isLine, 29), List.mem_of_getElem? (i := 81) (by decide +kernel), rfl⟩)) (by decide +kernel)
theorem w_433 : Cond.methodLink RX15 421 yX15_candidates ∈ TG := tg (sg_12 _ (List.mem_of_getElem? (i := 234) (by decide +kernel))) (by decide +kernel)
theorem w_434 : Cond.code yX15_candidates cX15_candidates 5 (some (.object "java/util/List")) ∈ TG := tg (sg_12 _ (List.mem_of_getElem? (i := 237) (by decide +kernel))) (by decide +kernel)
theorem w_435 : Cond.instanceMethod yX15_candidates ∈ TG := tg (sg_12 _ (List.mem_of_getElem? (i := 236) (by decide +kernel))) (by decide +kernel)
theorem w_436 : Cond.selects RX15 yX15_candidates yX15_candidates ∈ TG := tg (List.mem_append_left _ (List.mem_map.mpr ⟨(yX15_candidates, 29), List.mem_of_getElem? (i := 116) (by decide +kernel), rfl⟩)) (by decide +kernel)
theorem w_437 : Cond.fieldLink RX15 20 "StuckatBenchModel" "sources" "Ljava/util/List;" ∈ TG := tg (sg_9 _ (List.mem_of_getElem? (i := 115) (by decide +kernel))) (by decide +kernel)
theorem w_438 : Cond.classLink RX15 110 RX13 ∈ TG := tg (sg_9 _ (List.mem_of_getElem? (i := 223) (by decide +kernel))) (by decide +kernel)
theorem w_439 : Cond.instantiable RX13 8 ∈ TG := tg (sg_9 _ (List.mem_of_getElem? (i := 224) (by decide +kernel))) (by decide +kernel)
theorem w_440 : Cond.initialized RX13 ∈ TG := tg (sg_1 _ (List.mem_of_getElem? (i := 23) (by decide +kernel))) (by decide +kernel)
theorem in_X13 : ∀ w ∈ u_ws RX13 TX13 8, w ∈ TG := fun w h => tg (List.mem_append_right _ ((goodIn_r (big := tables_1) _ [2162, 2164, 2166, 2168, 2170, 2172, 2174, 2176] (by decide +kernel) (by decide +kernel) w h).1)) ((List.all_eq_true.mp (by decide +kernel : (u_ws RX13 TX13 8).all goodWord = true)) w h)
theorem w_441 : Cond.methodLink RX13 3 ⟨"java/lang/Object", "<init>", "()V"⟩ ∈ TG := tg (sg_9 _ (List.mem_of_getElem? (i := 228) (by decide +kernel))) (by decide +kernel)
theorem w_442 : Cond.fieldLink RX13 9 "StuckatBenchModel$Line" "source" "I" ∈ TG := tg (sg_9 _ (List.mem_of_getElem? (i := 233) (by decide +kernel))) (by decide +kernel)
theorem w_443 : Cond.fieldLink RX13 15 "StuckatBenchModel$Line" "data" "I" ∈ TG := tg (sg_9 _ (List.mem_of_getElem? (i := 235) (by decide +kernel))) (by decide +kernel)
theorem w_444 : Cond.fieldLink RX13 18 "StuckatBenchModel$Line" "tied" "I" ∈ TG := tg (sg_9 _ (List.mem_of_getElem? (i := 238) (by decide +kernel))) (by decide +kernel)
theorem w_445 : Cond.fieldLink RX13 21 "StuckatBenchModel$Line" "kind" "C" ∈ TG := tg (sg_9 _ (List.mem_of_getElem? (i := 229) (by decide +kernel))) (by decide +kernel)
theorem w_446 : Cond.fieldLink RX13 25 "StuckatBenchModel$Line" "pins" "[I" ∈ TG := tg (sg_9 _ (List.mem_of_getElem? (i := 231) (by decide +kernel))) (by decide +kernel)
theorem w_447 : Cond.methodLink RX15 112 yX13_init ∈ TG := tg (sg_9 _ (List.mem_of_getElem? (i := 225) (by decide +kernel))) (by decide +kernel)
theorem w_448 : Cond.code yX13_init cX13_init 3 none ∈ TG := tg (sg_9 _ (List.mem_of_getElem? (i := 227) (by decide +kernel))) (by decide +kernel)
theorem w_449 : Cond.instanceMethod yX13_init ∈ TG := tg (sg_9 _ (List.mem_of_getElem? (i := 226) (by decide +kernel))) (by decide +kernel)
theorem w_450 : Cond.fieldLinkNest RX15 115 "StuckatBenchModel$Line" "source" "I" "StuckatBenchModel" ∈ NWL := List.mem_filter.mpr ⟨(sh_9 _ (List.mem_of_getElem? (i := 234) (by decide +kernel))), by decide +kernel⟩
theorem w_451 : Cond.fieldLink RJ6 191 "java/lang/Integer$IntegerCache" "high" "I" ∈ TG := tg (sg_10 _ (List.mem_of_getElem? (i := 22) (by decide +kernel))) (by decide +kernel)
theorem w_452 : Cond.fieldLink RJ6 195 "java/lang/Integer$IntegerCache" "cache" "[Ljava/lang/Integer;" ∈ TG := tg (sg_10 _ (List.mem_of_getElem? (i := 24) (by decide +kernel))) (by decide +kernel)
theorem w_453 : Cond.methodLink RX15 118 yJ6_valueOf_2dffe ∈ TG := tg (sg_10 _ (List.mem_of_getElem? (i := 19) (by decide +kernel))) (by decide +kernel)
theorem w_454 : Cond.code yJ6_valueOf_2dffe cJ6_valueOf_2dffe 1 (some (.object "java/lang/Integer")) ∈ TG := tg (sg_10 _ (List.mem_of_getElem? (i := 21) (by decide +kernel))) (by decide +kernel)
theorem w_455 : Cond.static yJ6_valueOf_2dffe ∈ TG := tg (sg_10 _ (List.mem_of_getElem? (i := 20) (by decide +kernel))) (by decide +kernel)
theorem w_456 : Cond.fieldLink RJx4a65c 63 "java/util/ArrayList" "modCount" "I" ∈ TG := tg (sg_9 _ (List.mem_of_getElem? (i := 99) (by decide +kernel))) (by decide +kernel)
theorem w_457 : Cond.methodLink RJx4a65c 79 yJ9_max_7cf53 ∈ TG := tg (sg_10 _ (List.mem_of_getElem? (i := 111) (by decide +kernel))) (by decide +kernel)
theorem w_458 : Cond.classLink RJx4a65c 7 "java/lang/Object" ∈ TG := tg (sg_10 _ (List.mem_of_getElem? (i := 112) (by decide +kernel))) (by decide +kernel)
theorem w_459 : Cond.methodLink RJx4a65c 69 yJx4a65c_grow_92f84 ∈ TG := tg (sg_10 _ (List.mem_of_getElem? (i := 56) (by decide +kernel))) (by decide +kernel)
theorem w_460 : Cond.code yJx4a65c_grow_92f84 cJx4a65c_grow_92f84 4 (some (.array (.object "java/lang/Object"))) ∈ TG := tg (sg_10 _ (List.mem_of_getElem? (i := 59) (by decide +kernel))) (by decide +kernel)
theorem w_461 : Cond.instanceMethod yJx4a65c_grow_92f84 ∈ TG := tg (sg_10 _ (List.mem_of_getElem? (i := 58) (by decide +kernel))) (by decide +kernel)
theorem w_462 : Cond.selects RJx4a65c yJx4a65c_grow_92f84 yJx4a65c_grow_92f84 ∈ TG := tg (List.mem_append_left _ (List.mem_map.mpr ⟨(yJx4a65c_grow_92f84, 3), List.mem_of_getElem? (i := 80) (by decide +kernel), rfl⟩)) (by decide +kernel)
theorem w_463 : Cond.methodLink RJx4a65c 129 yJx4a65c_grow_d5877 ∈ TG := tg (sg_10 _ (List.mem_of_getElem? (i := 52) (by decide +kernel))) (by decide +kernel)
theorem w_464 : Cond.code yJx4a65c_grow_d5877 cJx4a65c_grow_d5877 1 (some (.array (.object "java/lang/Object"))) ∈ TG := tg (sg_10 _ (List.mem_of_getElem? (i := 55) (by decide +kernel))) (by decide +kernel)
theorem w_465 : Cond.instanceMethod yJx4a65c_grow_d5877 ∈ TG := tg (sg_10 _ (List.mem_of_getElem? (i := 54) (by decide +kernel))) (by decide +kernel)
theorem w_466 : Cond.selects RJx4a65c yJx4a65c_grow_d5877 yJx4a65c_grow_d5877 ∈ TG := tg (List.mem_append_left _ (List.mem_map.mpr ⟨(yJx4a65c_grow_d5877, 3), List.mem_of_getElem? (i := 79) (by decide +kernel), rfl⟩)) (by decide +kernel)
theorem w_467 : Cond.castable "java/lang/Integer" "java/lang/Object" ∈ NWL := List.mem_filter.mpr ⟨(sh_14 _ (List.mem_of_getElem? (i := 234) (by decide +kernel))), by decide +kernel⟩
theorem w_468 : Cond.methodLink RJx4a65c 131 yJx4a65c_add_72be8 ∈ TG := tg (sg_10 _ (List.mem_of_getElem? (i := 48) (by decide +kernel))) (by decide +kernel)
theorem w_469 : Cond.code yJx4a65c_add_72be8 cJx4a65c_add_72be8 4 none ∈ TG := tg (sg_10 _ (List.mem_of_getElem? (i := 51) (by decide +kernel))) (by decide +kernel)
theorem w_470 : Cond.instanceMethod yJx4a65c_add_72be8 ∈ TG := tg (sg_10 _ (List.mem_of_getElem? (i := 50) (by decide +kernel))) (by decide +kernel)
theorem w_471 : Cond.selects RJx4a65c yJx4a65c_add_72be8 yJx4a65c_add_72be8 ∈ TG := tg (List.mem_append_left _ (List.mem_map.mpr ⟨(yJx4a65c_add_72be8, 3), List.mem_of_getElem? (i := 78) (by decide +kernel), rfl⟩)) (by decide +kernel)
theorem w_472 : Cond.methodLink RX15 124 ⟨"java/util/List", "add", "(Ljava/lang/Object;)Z"⟩ ∈ TG := tg (sg_10 _ (List.mem_of_getElem? (i := 40) (by decide +kernel))) (by decide +kernel)
theorem w_473 : Cond.code yJx4a65c_add_9ea2d cJx4a65c_add_9ea2d 2 (some .boolean) ∈ TG := tg (sg_10 _ (List.mem_of_getElem? (i := 47) (by decide +kernel))) (by decide +kernel)
theorem w_474 : Cond.selects RJx4a65c ⟨"java/util/List", "add", "(Ljava/lang/Object;)Z"⟩ yJx4a65c_add_9ea2d ∈ TG := tg (sg_10 _ (List.mem_of_getElem? (i := 43) (by decide +kernel))) (by decide +kernel)
theorem w_475 : Cond.instanceMethod yJx4a65c_add_9ea2d ∈ TG := tg (sg_10 _ (List.mem_of_getElem? (i := 45) (by decide +kernel))) (by decide +kernel)
theorem w_476 : Cond.castable "StuckatBenchModel$Line" "java/lang/Object" ∈ NWL := List.mem_filter.mpr ⟨(sh_15 _ (List.mem_of_getElem? (i := 11) (by decide +kernel))), by decide +kernel⟩
theorem w_477 : Cond.methodLink RX15 128 yX15_addSource ∈ TG := tg (sg_9 _ (List.mem_of_getElem? (i := 205) (by decide +kernel))) (by decide +kernel)
theorem w_478 : Cond.code yX15_addSource cX15_addSource 3 (some .int) ∈ TG := tg (sg_9 _ (List.mem_of_getElem? (i := 208) (by decide +kernel))) (by decide +kernel)
theorem w_479 : Cond.instanceMethod yX15_addSource ∈ TG := tg (sg_9 _ (List.mem_of_getElem? (i := 207) (by decide +kernel))) (by decide +kernel)
theorem w_480 : Cond.selects RX15 yX15_addSource yX15_addSource ∈ TG := tg (List.mem_append_left _ (List.mem_map.mpr ⟨(yX15_addSource, 29), List.mem_of_getElem? (i := 76) (by decide +kernel), rfl⟩)) (by decide +kernel)
theorem w_481 : Cond.constant RX15 392 65535 ∈ TG := tg (sg_12 _ (List.mem_of_getElem? (i := 188) (by decide +kernel))) (by decide +kernel)
theorem w_482 : Cond.methodLink RX15 175 yX15_canClose ∈ TG := tg (sg_11 _ (List.mem_of_getElem? (i := 2) (by decide +kernel))) (by decide +kernel)
theorem w_483 : Cond.code yX15_canClose cX15_canClose 5 (some .boolean) ∈ TG := tg (sg_11 _ (List.mem_of_getElem? (i := 5) (by decide +kernel))) (by decide +kernel)
theorem w_484 : Cond.instanceMethod yX15_canClose ∈ TG := tg (sg_11 _ (List.mem_of_getElem? (i := 4) (by decide +kernel))) (by decide +kernel)
theorem w_485 : Cond.selects RX15 yX15_canClose yX15_canClose ∈ TG := tg (List.mem_append_left _ (List.mem_map.mpr ⟨(yX15_canClose, 29), List.mem_of_getElem? (i := 82) (by decide +kernel), rfl⟩)) (by decide +kernel)
theorem dJ0_coder_7d493_0 : decode cJ0_coder_7d493 0 = .ok (.getstatic 38, 3) := by decide +kernel
theorem dJ0_coder_7d493_3 : decode cJ0_coder_7d493 3 = .ok (.ifCond .eq 10, 3) := by decide +kernel
theorem dJ0_coder_7d493_6 : decode cJ0_coder_7d493 6 = .ok (.aload_n 0, 1) := by decide +kernel
theorem dJ0_coder_7d493_7 : decode cJ0_coder_7d493 7 = .ok (.getfield 15, 3) := by decide +kernel
theorem dJ0_coder_7d493_10 : decode cJ0_coder_7d493 10 = .ok (.goto 4, 3) := by decide +kernel
theorem dJ0_coder_7d493_13 : decode cJ0_coder_7d493 13 = .ok (.iconst 1, 1) := by decide +kernel
theorem dJ0_coder_7d493_14 : decode cJ0_coder_7d493 14 = .ok (.ireturn, 1) := by decide +kernel
theorem dJ0_indexOf_0f7a4_0 : decode cJ0_indexOf_0f7a4 0 = .ok (.aload_n 0, 1) := by decide +kernel
theorem dJ0_indexOf_0f7a4_1 : decode cJ0_indexOf_0f7a4 1 = .ok (.iload_n 1, 1) := by decide +kernel
theorem dJ0_indexOf_0f7a4_2 : decode cJ0_indexOf_0f7a4 2 = .ok (.iconst 0, 1) := by decide +kernel
theorem dJ0_indexOf_0f7a4_3 : decode cJ0_indexOf_0f7a4 3 = .ok (.invokevirtual 633, 3) := by decide +kernel
theorem dJ0_indexOf_0f7a4_6 : decode cJ0_indexOf_0f7a4 6 = .ok (.ireturn, 1) := by decide +kernel
theorem dJ0_indexOf_7cf53_0 : decode cJ0_indexOf_7cf53 0 = .ok (.aload_n 0, 1) := by decide +kernel
theorem dJ0_indexOf_7cf53_1 : decode cJ0_indexOf_7cf53 1 = .ok (.invokevirtual 492, 3) := by decide +kernel
theorem dJ0_indexOf_7cf53_4 : decode cJ0_indexOf_7cf53 4 = .ok (.ifCond .eq 19, 3) := by decide +kernel
theorem dJ0_indexOf_7cf53_7 : decode cJ0_indexOf_7cf53 7 = .ok (.aload_n 0, 1) := by decide +kernel
theorem dJ0_indexOf_7cf53_8 : decode cJ0_indexOf_7cf53 8 = .ok (.getfield 9, 3) := by decide +kernel
theorem dJ0_indexOf_7cf53_11 : decode cJ0_indexOf_7cf53 11 = .ok (.iload_n 1, 1) := by decide +kernel
theorem dJ0_indexOf_7cf53_12 : decode cJ0_indexOf_7cf53 12 = .ok (.iload_n 2, 1) := by decide +kernel
theorem dJ0_indexOf_7cf53_13 : decode cJ0_indexOf_7cf53 13 = .ok (.aload_n 0, 1) := by decide +kernel
theorem dJ0_indexOf_7cf53_14 : decode cJ0_indexOf_7cf53 14 = .ok (.invokevirtual 505, 3) := by decide +kernel
theorem dJ0_indexOf_7cf53_17 : decode cJ0_indexOf_7cf53 17 = .ok (.invokestatic 637, 3) := by decide +kernel
theorem dJ0_indexOf_7cf53_20 : decode cJ0_indexOf_7cf53 20 = .ok (.goto 16, 3) := by decide +kernel
theorem dJ0_indexOf_7cf53_23 : decode cJ0_indexOf_7cf53 23 = .ok (.aload_n 0, 1) := by decide +kernel
theorem dJ0_indexOf_7cf53_24 : decode cJ0_indexOf_7cf53 24 = .ok (.getfield 9, 3) := by decide +kernel
theorem dJ0_indexOf_7cf53_27 : decode cJ0_indexOf_7cf53 27 = .ok (.iload_n 1, 1) := by decide +kernel
theorem dJ0_indexOf_7cf53_28 : decode cJ0_indexOf_7cf53 28 = .ok (.iload_n 2, 1) := by decide +kernel
theorem dJ0_indexOf_7cf53_29 : decode cJ0_indexOf_7cf53 29 = .ok (.aload_n 0, 1) := by decide +kernel
theorem dJ0_indexOf_7cf53_30 : decode cJ0_indexOf_7cf53 30 = .ok (.invokevirtual 505, 3) := by decide +kernel
theorem dJ0_indexOf_7cf53_33 : decode cJ0_indexOf_7cf53 33 = .ok (.invokestatic 640, 3) := by decide +kernel
theorem dJ0_indexOf_7cf53_36 : decode cJ0_indexOf_7cf53 36 = .ok (.ireturn, 1) := by decide +kernel
theorem dJ0_isLatin1_aae02_0 : decode cJ0_isLatin1_aae02 0 = .ok (.getstatic 38, 3) := by decide +kernel
theorem dJ0_isLatin1_aae02_3 : decode cJ0_isLatin1_aae02 3 = .ok (.ifCond .eq 14, 3) := by decide +kernel
theorem dJ0_isLatin1_aae02_6 : decode cJ0_isLatin1_aae02 6 = .ok (.aload_n 0, 1) := by decide +kernel
theorem dJ0_isLatin1_aae02_7 : decode cJ0_isLatin1_aae02 7 = .ok (.getfield 15, 3) := by decide +kernel
theorem dJ0_isLatin1_aae02_10 : decode cJ0_isLatin1_aae02 10 = .ok (.ifCond .ne 7, 3) := by decide +kernel
theorem dJ0_isLatin1_aae02_13 : decode cJ0_isLatin1_aae02 13 = .ok (.iconst 1, 1) := by decide +kernel
theorem dJ0_isLatin1_aae02_14 : decode cJ0_isLatin1_aae02 14 = .ok (.goto 4, 3) := by decide +kernel
theorem dJ0_isLatin1_aae02_17 : decode cJ0_isLatin1_aae02 17 = .ok (.iconst 0, 1) := by decide +kernel
theorem dJ0_isLatin1_aae02_18 : decode cJ0_isLatin1_aae02 18 = .ok (.ireturn, 1) := by decide +kernel
theorem dJ0_length_8abf5_0 : decode cJ0_length_8abf5 0 = .ok (.aload_n 0, 1) := by decide +kernel
theorem dJ0_length_8abf5_1 : decode cJ0_length_8abf5 1 = .ok (.getfield 9, 3) := by decide +kernel
theorem dJ0_length_8abf5_4 : decode cJ0_length_8abf5 4 = .ok (.arraylength, 1) := by decide +kernel
theorem dJ0_length_8abf5_5 : decode cJ0_length_8abf5 5 = .ok (.aload_n 0, 1) := by decide +kernel
theorem dJ0_length_8abf5_6 : decode cJ0_length_8abf5 6 = .ok (.invokevirtual 335, 3) := by decide +kernel
theorem dJ0_length_8abf5_9 : decode cJ0_length_8abf5 9 = .ok (.ishr, 1) := by decide +kernel
theorem dJ0_length_8abf5_10 : decode cJ0_length_8abf5 10 = .ok (.ireturn, 1) := by decide +kernel
theorem dJ1_canEncode_9a6ad_0 : decode cJ1_canEncode_9a6ad 0 = .ok (.iload_n 0, 1) := by decide +kernel
theorem dJ1_canEncode_9a6ad_1 : decode cJ1_canEncode_9a6ad 1 = .ok (.ifCond .lt 14, 3) := by decide +kernel
theorem dJ1_canEncode_9a6ad_4 : decode cJ1_canEncode_9a6ad 4 = .ok (.iload_n 0, 1) := by decide +kernel
theorem dJ1_canEncode_9a6ad_5 : decode cJ1_canEncode_9a6ad 5 = .ok (.sipush 255, 3) := by decide +kernel
theorem dJ1_canEncode_9a6ad_8 : decode cJ1_canEncode_9a6ad 8 = .ok (.if_icmp .gt 7, 3) := by decide +kernel
theorem dJ1_canEncode_9a6ad_11 : decode cJ1_canEncode_9a6ad 11 = .ok (.iconst 1, 1) := by decide +kernel
theorem dJ1_canEncode_9a6ad_12 : decode cJ1_canEncode_9a6ad 12 = .ok (.goto 4, 3) := by decide +kernel
theorem dJ1_canEncode_9a6ad_15 : decode cJ1_canEncode_9a6ad 15 = .ok (.iconst 0, 1) := by decide +kernel
theorem dJ1_canEncode_9a6ad_16 : decode cJ1_canEncode_9a6ad 16 = .ok (.ireturn, 1) := by decide +kernel
theorem dJ1_indexOfChar_4cfef_0 : decode cJ1_indexOfChar_4cfef 0 = .ok (.iload_n 1, 1) := by decide +kernel
theorem dJ1_indexOfChar_4cfef_1 : decode cJ1_indexOfChar_4cfef 1 = .ok (.i2b, 1) := by decide +kernel
theorem dJ1_indexOfChar_4cfef_2 : decode cJ1_indexOfChar_4cfef 2 = .ok (.istore 4, 2) := by decide +kernel
theorem dJ1_indexOfChar_4cfef_4 : decode cJ1_indexOfChar_4cfef 4 = .ok (.iload_n 2, 1) := by decide +kernel
theorem dJ1_indexOfChar_4cfef_5 : decode cJ1_indexOfChar_4cfef 5 = .ok (.istore 5, 2) := by decide +kernel
theorem dJ1_indexOfChar_4cfef_7 : decode cJ1_indexOfChar_4cfef 7 = .ok (.iload 5, 2) := by decide +kernel
theorem dJ1_indexOfChar_4cfef_9 : decode cJ1_indexOfChar_4cfef 9 = .ok (.iload_n 3, 1) := by decide +kernel
theorem dJ1_indexOfChar_4cfef_10 : decode cJ1_indexOfChar_4cfef 10 = .ok (.if_icmp .ge 21, 3) := by decide +kernel
theorem dJ1_indexOfChar_4cfef_13 : decode cJ1_indexOfChar_4cfef 13 = .ok (.aload_n 0, 1) := by decide +kernel
theorem dJ1_indexOfChar_4cfef_14 : decode cJ1_indexOfChar_4cfef 14 = .ok (.iload 5, 2) := by decide +kernel
theorem dJ1_indexOfChar_4cfef_16 : decode cJ1_indexOfChar_4cfef 16 = .ok (.baload, 1) := by decide +kernel
theorem dJ1_indexOfChar_4cfef_17 : decode cJ1_indexOfChar_4cfef 17 = .ok (.iload 4, 2) := by decide +kernel
theorem dJ1_indexOfChar_4cfef_19 : decode cJ1_indexOfChar_4cfef 19 = .ok (.if_icmp .ne 6, 3) := by decide +kernel
theorem dJ1_indexOfChar_4cfef_22 : decode cJ1_indexOfChar_4cfef 22 = .ok (.iload 5, 2) := by decide +kernel
theorem dJ1_indexOfChar_4cfef_24 : decode cJ1_indexOfChar_4cfef 24 = .ok (.ireturn, 1) := by decide +kernel
theorem dJ1_indexOfChar_4cfef_25 : decode cJ1_indexOfChar_4cfef 25 = .ok (.iinc 5 1, 3) := by decide +kernel
theorem dJ1_indexOfChar_4cfef_28 : decode cJ1_indexOfChar_4cfef 28 = .ok (.goto (-21), 3) := by decide +kernel
theorem dJ1_indexOfChar_4cfef_31 : decode cJ1_indexOfChar_4cfef 31 = .ok (.iconst (-1), 1) := by decide +kernel
theorem dJ1_indexOfChar_4cfef_32 : decode cJ1_indexOfChar_4cfef 32 = .ok (.ireturn, 1) := by decide +kernel
theorem dJ1_indexOf_4cfef_0 : decode cJ1_indexOf_4cfef 0 = .ok (.iload_n 1, 1) := by decide +kernel
theorem dJ1_indexOf_4cfef_1 : decode cJ1_indexOf_4cfef 1 = .ok (.invokestatic 88, 3) := by decide +kernel
theorem dJ1_indexOf_4cfef_4 : decode cJ1_indexOf_4cfef 4 = .ok (.ifCond .ne 5, 3) := by decide +kernel
theorem dJ1_indexOf_4cfef_7 : decode cJ1_indexOf_4cfef 7 = .ok (.iconst (-1), 1) := by decide +kernel
theorem dJ1_indexOf_4cfef_8 : decode cJ1_indexOf_4cfef 8 = .ok (.ireturn, 1) := by decide +kernel
theorem dJ1_indexOf_4cfef_9 : decode cJ1_indexOf_4cfef 9 = .ok (.iload_n 2, 1) := by decide +kernel
theorem dJ1_indexOf_4cfef_10 : decode cJ1_indexOf_4cfef 10 = .ok (.iconst 0, 1) := by decide +kernel
theorem dJ1_indexOf_4cfef_11 : decode cJ1_indexOf_4cfef 11 = .ok (.invokestatic 92, 3) := by decide +kernel
theorem dJ1_indexOf_4cfef_14 : decode cJ1_indexOf_4cfef 14 = .ok (.istore_n 2, 1) := by decide +kernel
theorem dJ1_indexOf_4cfef_15 : decode cJ1_indexOf_4cfef 15 = .ok (.iload_n 3, 1) := by decide +kernel
theorem dJ1_indexOf_4cfef_16 : decode cJ1_indexOf_4cfef 16 = .ok (.aload_n 0, 1) := by decide +kernel
theorem dJ1_indexOf_4cfef_17 : decode cJ1_indexOf_4cfef 17 = .ok (.arraylength, 1) := by decide +kernel
theorem dJ1_indexOf_4cfef_18 : decode cJ1_indexOf_4cfef 18 = .ok (.invokestatic 38, 3) := by decide +kernel
theorem dJ1_indexOf_4cfef_21 : decode cJ1_indexOf_4cfef 21 = .ok (.istore_n 3, 1) := by decide +kernel
theorem dJ1_indexOf_4cfef_22 : decode cJ1_indexOf_4cfef 22 = .ok (.iload_n 2, 1) := by decide +kernel
theorem dJ1_indexOf_4cfef_23 : decode cJ1_indexOf_4cfef 23 = .ok (.iload_n 3, 1) := by decide +kernel
theorem dJ1_indexOf_4cfef_24 : decode cJ1_indexOf_4cfef 24 = .ok (.if_icmp .lt 5, 3) := by decide +kernel
theorem dJ1_indexOf_4cfef_27 : decode cJ1_indexOf_4cfef 27 = .ok (.iconst (-1), 1) := by decide +kernel
theorem dJ1_indexOf_4cfef_28 : decode cJ1_indexOf_4cfef 28 = .ok (.ireturn, 1) := by decide +kernel
theorem dJ1_indexOf_4cfef_29 : decode cJ1_indexOf_4cfef 29 = .ok (.aload_n 0, 1) := by decide +kernel
theorem dJ1_indexOf_4cfef_30 : decode cJ1_indexOf_4cfef 30 = .ok (.iload_n 1, 1) := by decide +kernel
theorem dJ1_indexOf_4cfef_31 : decode cJ1_indexOf_4cfef 31 = .ok (.iload_n 2, 1) := by decide +kernel
theorem dJ1_indexOf_4cfef_32 : decode cJ1_indexOf_4cfef 32 = .ok (.iload_n 3, 1) := by decide +kernel
theorem dJ1_indexOf_4cfef_33 : decode cJ1_indexOf_4cfef 33 = .ok (.invokestatic 95, 3) := by decide +kernel
theorem dJ1_indexOf_4cfef_36 : decode cJ1_indexOf_4cfef 36 = .ok (.ireturn, 1) := by decide +kernel
theorem dJ6_valueOf_2dffe_0 : decode cJ6_valueOf_2dffe 0 = .ok (.iload_n 0, 1) := by decide +kernel
theorem dJ6_valueOf_2dffe_1 : decode cJ6_valueOf_2dffe 1 = .ok (.bipush (-128), 2) := by decide +kernel
theorem dJ6_valueOf_2dffe_3 : decode cJ6_valueOf_2dffe 3 = .ok (.if_icmp .lt 20, 3) := by decide +kernel
theorem dJ6_valueOf_2dffe_6 : decode cJ6_valueOf_2dffe 6 = .ok (.iload_n 0, 1) := by decide +kernel
theorem dJ6_valueOf_2dffe_7 : decode cJ6_valueOf_2dffe 7 = .ok (.getstatic 191, 3) := by decide +kernel
theorem dJ6_valueOf_2dffe_10 : decode cJ6_valueOf_2dffe 10 = .ok (.if_icmp .gt 13, 3) := by decide +kernel
theorem dJ6_valueOf_2dffe_13 : decode cJ6_valueOf_2dffe 13 = .ok (.getstatic 195, 3) := by decide +kernel
theorem dJ6_valueOf_2dffe_16 : decode cJ6_valueOf_2dffe 16 = .ok (.iload_n 0, 1) := by decide +kernel
theorem dJ6_valueOf_2dffe_17 : decode cJ6_valueOf_2dffe 17 = .ok (.sipush 128, 3) := by decide +kernel
theorem dJ6_valueOf_2dffe_20 : decode cJ6_valueOf_2dffe 20 = .ok (.iadd, 1) := by decide +kernel
theorem dJ6_valueOf_2dffe_21 : decode cJ6_valueOf_2dffe 21 = .ok (.aaload, 1) := by decide +kernel
theorem dJ6_valueOf_2dffe_22 : decode cJ6_valueOf_2dffe 22 = .ok (.areturn, 1) := by decide +kernel
theorem dJ6_valueOf_2dffe_23 : decode cJ6_valueOf_2dffe 23 = .ok (.new 1, 3) := by decide +kernel
theorem dJ6_valueOf_2dffe_26 : decode cJ6_valueOf_2dffe 26 = .ok (.dup, 1) := by decide +kernel
theorem dJ6_valueOf_2dffe_27 : decode cJ6_valueOf_2dffe 27 = .ok (.iload_n 0, 1) := by decide +kernel
theorem dJ6_valueOf_2dffe_28 : decode cJ6_valueOf_2dffe 28 = .ok (.invokespecial 199, 3) := by decide +kernel
theorem dJ6_valueOf_2dffe_31 : decode cJ6_valueOf_2dffe 31 = .ok (.areturn, 1) := by decide +kernel
theorem dJx35411_hasNext_aae02_0 : decode cJx35411_hasNext_aae02 0 = .ok (.aload_n 0, 1) := by decide +kernel
theorem dJx35411_hasNext_aae02_1 : decode cJx35411_hasNext_aae02 1 = .ok (.getfield 25, 3) := by decide +kernel
theorem dJx35411_hasNext_aae02_4 : decode cJx35411_hasNext_aae02 4 = .ok (.aload_n 0, 1) := by decide +kernel
theorem dJx35411_hasNext_aae02_5 : decode cJx35411_hasNext_aae02 5 = .ok (.getfield 1, 3) := by decide +kernel
theorem dJx35411_hasNext_aae02_8 : decode cJx35411_hasNext_aae02 8 = .ok (.getfield 28, 3) := by decide +kernel
theorem dJx35411_hasNext_aae02_11 : decode cJx35411_hasNext_aae02 11 = .ok (.if_icmp .eq 7, 3) := by decide +kernel
theorem dJx35411_hasNext_aae02_14 : decode cJx35411_hasNext_aae02 14 = .ok (.iconst 1, 1) := by decide +kernel
theorem dJx35411_hasNext_aae02_15 : decode cJx35411_hasNext_aae02 15 = .ok (.goto 4, 3) := by decide +kernel
theorem dJx35411_hasNext_aae02_18 : decode cJx35411_hasNext_aae02 18 = .ok (.iconst 0, 1) := by decide +kernel
theorem dJx35411_hasNext_aae02_19 : decode cJx35411_hasNext_aae02 19 = .ok (.ireturn, 1) := by decide +kernel
theorem dJx35411_init_45d68_0 : decode cJx35411_init_45d68 0 = .ok (.aload_n 0, 1) := by decide +kernel
theorem dJx35411_init_45d68_1 : decode cJx35411_init_45d68 1 = .ok (.aload_n 1, 1) := by decide +kernel
theorem dJx35411_init_45d68_2 : decode cJx35411_init_45d68 2 = .ok (.putfield 1, 3) := by decide +kernel
theorem dJx35411_init_45d68_5 : decode cJx35411_init_45d68 5 = .ok (.aload_n 0, 1) := by decide +kernel
theorem dJx35411_init_45d68_6 : decode cJx35411_init_45d68 6 = .ok (.invokespecial 7, 3) := by decide +kernel
theorem dJx35411_init_45d68_9 : decode cJx35411_init_45d68 9 = .ok (.aload_n 0, 1) := by decide +kernel
theorem dJx35411_init_45d68_10 : decode cJx35411_init_45d68 10 = .ok (.iconst (-1), 1) := by decide +kernel
theorem dJx35411_init_45d68_11 : decode cJx35411_init_45d68 11 = .ok (.putfield 13, 3) := by decide +kernel
theorem dJx35411_init_45d68_14 : decode cJx35411_init_45d68 14 = .ok (.aload_n 0, 1) := by decide +kernel
theorem dJx35411_init_45d68_15 : decode cJx35411_init_45d68 15 = .ok (.aload_n 0, 1) := by decide +kernel
theorem dJx35411_init_45d68_16 : decode cJx35411_init_45d68 16 = .ok (.getfield 1, 3) := by decide +kernel
theorem dJx35411_init_45d68_19 : decode cJx35411_init_45d68 19 = .ok (.getfield 17, 3) := by decide +kernel
theorem dJx35411_init_45d68_22 : decode cJx35411_init_45d68 22 = .ok (.putfield 22, 3) := by decide +kernel
theorem dJx35411_init_45d68_25 : decode cJx35411_init_45d68 25 = .ok (.return_, 1) := by decide +kernel
theorem dJx4a65c_add_72be8_0 : decode cJx4a65c_add_72be8 0 = .ok (.iload_n 3, 1) := by decide +kernel
theorem dJx4a65c_add_72be8_1 : decode cJx4a65c_add_72be8 1 = .ok (.aload_n 2, 1) := by decide +kernel
theorem dJx4a65c_add_72be8_2 : decode cJx4a65c_add_72be8 2 = .ok (.arraylength, 1) := by decide +kernel
theorem dJx4a65c_add_72be8_3 : decode cJx4a65c_add_72be8 3 = .ok (.if_icmp .ne 8, 3) := by decide +kernel
theorem dJx4a65c_add_72be8_6 : decode cJx4a65c_add_72be8 6 = .ok (.aload_n 0, 1) := by decide +kernel
theorem dJx4a65c_add_72be8_7 : decode cJx4a65c_add_72be8 7 = .ok (.invokevirtual 129, 3) := by decide +kernel
theorem dJx4a65c_add_72be8_10 : decode cJx4a65c_add_72be8 10 = .ok (.astore_n 2, 1) := by decide +kernel
theorem dJx4a65c_add_72be8_11 : decode cJx4a65c_add_72be8 11 = .ok (.aload_n 2, 1) := by decide +kernel
theorem dJx4a65c_add_72be8_12 : decode cJx4a65c_add_72be8 12 = .ok (.iload_n 3, 1) := by decide +kernel
theorem dJx4a65c_add_72be8_13 : decode cJx4a65c_add_72be8 13 = .ok (.aload_n 1, 1) := by decide +kernel
theorem dJx4a65c_add_72be8_14 : decode cJx4a65c_add_72be8 14 = .ok (.aastore, 1) := by decide +kernel
theorem dJx4a65c_add_72be8_15 : decode cJx4a65c_add_72be8 15 = .ok (.aload_n 0, 1) := by decide +kernel
theorem dJx4a65c_add_72be8_16 : decode cJx4a65c_add_72be8 16 = .ok (.iload_n 3, 1) := by decide +kernel
theorem dJx4a65c_add_72be8_17 : decode cJx4a65c_add_72be8 17 = .ok (.iconst 1, 1) := by decide +kernel
theorem dJx4a65c_add_72be8_18 : decode cJx4a65c_add_72be8 18 = .ok (.iadd, 1) := by decide +kernel
theorem dJx4a65c_add_72be8_19 : decode cJx4a65c_add_72be8 19 = .ok (.putfield 48, 3) := by decide +kernel
theorem dJx4a65c_add_72be8_22 : decode cJx4a65c_add_72be8 22 = .ok (.return_, 1) := by decide +kernel
theorem dJx4a65c_add_9ea2d_0 : decode cJx4a65c_add_9ea2d 0 = .ok (.aload_n 0, 1) := by decide +kernel
theorem dJx4a65c_add_9ea2d_1 : decode cJx4a65c_add_9ea2d 1 = .ok (.dup, 1) := by decide +kernel
theorem dJx4a65c_add_9ea2d_2 : decode cJx4a65c_add_9ea2d 2 = .ok (.getfield 63, 3) := by decide +kernel
theorem dJx4a65c_add_9ea2d_5 : decode cJx4a65c_add_9ea2d 5 = .ok (.iconst 1, 1) := by decide +kernel
theorem dJx4a65c_add_9ea2d_6 : decode cJx4a65c_add_9ea2d 6 = .ok (.iadd, 1) := by decide +kernel
theorem dJx4a65c_add_9ea2d_7 : decode cJx4a65c_add_9ea2d 7 = .ok (.putfield 63, 3) := by decide +kernel
theorem dJx4a65c_add_9ea2d_10 : decode cJx4a65c_add_9ea2d 10 = .ok (.aload_n 0, 1) := by decide +kernel
theorem dJx4a65c_add_9ea2d_11 : decode cJx4a65c_add_9ea2d 11 = .ok (.aload_n 1, 1) := by decide +kernel
theorem dJx4a65c_add_9ea2d_12 : decode cJx4a65c_add_9ea2d 12 = .ok (.aload_n 0, 1) := by decide +kernel
theorem dJx4a65c_add_9ea2d_13 : decode cJx4a65c_add_9ea2d 13 = .ok (.getfield 9, 3) := by decide +kernel
theorem dJx4a65c_add_9ea2d_16 : decode cJx4a65c_add_9ea2d 16 = .ok (.aload_n 0, 1) := by decide +kernel
theorem dJx4a65c_add_9ea2d_17 : decode cJx4a65c_add_9ea2d 17 = .ok (.getfield 48, 3) := by decide +kernel
theorem dJx4a65c_add_9ea2d_20 : decode cJx4a65c_add_9ea2d 20 = .ok (.invokevirtual 131, 3) := by decide +kernel
theorem dJx4a65c_add_9ea2d_23 : decode cJx4a65c_add_9ea2d 23 = .ok (.iconst 1, 1) := by decide +kernel
theorem dJx4a65c_add_9ea2d_24 : decode cJx4a65c_add_9ea2d 24 = .ok (.ireturn, 1) := by decide +kernel
theorem dJx4a65c_grow_92f84_0 : decode cJx4a65c_grow_92f84 0 = .ok (.aload_n 0, 1) := by decide +kernel
theorem dJx4a65c_grow_92f84_1 : decode cJx4a65c_grow_92f84 1 = .ok (.getfield 9, 3) := by decide +kernel
theorem dJx4a65c_grow_92f84_4 : decode cJx4a65c_grow_92f84 4 = .ok (.arraylength, 1) := by decide +kernel
theorem dJx4a65c_grow_92f84_5 : decode cJx4a65c_grow_92f84 5 = .ok (.istore_n 2, 1) := by decide +kernel
theorem dJx4a65c_grow_92f84_6 : decode cJx4a65c_grow_92f84 6 = .ok (.iload_n 2, 1) := by decide +kernel
theorem dJx4a65c_grow_92f84_7 : decode cJx4a65c_grow_92f84 7 = .ok (.ifCond .gt 13, 3) := by decide +kernel
theorem dJx4a65c_grow_92f84_10 : decode cJx4a65c_grow_92f84 10 = .ok (.aload_n 0, 1) := by decide +kernel
theorem dJx4a65c_grow_92f84_11 : decode cJx4a65c_grow_92f84 11 = .ok (.getfield 9, 3) := by decide +kernel
theorem dJx4a65c_grow_92f84_14 : decode cJx4a65c_grow_92f84 14 = .ok (.getstatic 39, 3) := by decide +kernel
theorem dJx4a65c_grow_92f84_17 : decode cJx4a65c_grow_92f84 17 = .ok (.if_acmp .eq 28, 3) := by decide +kernel
theorem dJx4a65c_grow_92f84_20 : decode cJx4a65c_grow_92f84 20 = .ok (.iload_n 2, 1) := by decide +kernel
theorem dJx4a65c_grow_92f84_21 : decode cJx4a65c_grow_92f84 21 = .ok (.iload_n 1, 1) := by decide +kernel
theorem dJx4a65c_grow_92f84_22 : decode cJx4a65c_grow_92f84 22 = .ok (.iload_n 2, 1) := by decide +kernel
theorem dJx4a65c_grow_92f84_23 : decode cJx4a65c_grow_92f84 23 = .ok (.isub, 1) := by decide +kernel
theorem dJx4a65c_grow_92f84_24 : decode cJx4a65c_grow_92f84 24 = .ok (.iload_n 2, 1) := by decide +kernel
theorem dJx4a65c_grow_92f84_25 : decode cJx4a65c_grow_92f84 25 = .ok (.iconst 1, 1) := by decide +kernel
theorem dJx4a65c_grow_92f84_26 : decode cJx4a65c_grow_92f84 26 = .ok (.ishr, 1) := by decide +kernel
theorem dJx4a65c_grow_92f84_27 : decode cJx4a65c_grow_92f84 27 = .ok (.invokestatic 73, 3) := by decide +kernel
theorem dJx4a65c_grow_92f84_30 : decode cJx4a65c_grow_92f84 30 = .ok (.istore_n 3, 1) := by decide +kernel
theorem dJx4a65c_grow_92f84_31 : decode cJx4a65c_grow_92f84 31 = .ok (.aload_n 0, 1) := by decide +kernel
theorem dJx4a65c_grow_92f84_32 : decode cJx4a65c_grow_92f84 32 = .ok (.aload_n 0, 1) := by decide +kernel
theorem dJx4a65c_grow_92f84_33 : decode cJx4a65c_grow_92f84 33 = .ok (.getfield 9, 3) := by decide +kernel
theorem dJx4a65c_grow_92f84_36 : decode cJx4a65c_grow_92f84 36 = .ok (.iload_n 3, 1) := by decide +kernel
theorem dJx4a65c_grow_92f84_37 : decode cJx4a65c_grow_92f84 37 = .ok (.invokestatic 66, 3) := by decide +kernel
theorem dJx4a65c_grow_92f84_40 : decode cJx4a65c_grow_92f84 40 = .ok (.dup_x1, 1) := by decide +kernel
theorem dJx4a65c_grow_92f84_41 : decode cJx4a65c_grow_92f84 41 = .ok (.putfield 9, 3) := by decide +kernel
theorem dJx4a65c_grow_92f84_44 : decode cJx4a65c_grow_92f84 44 = .ok (.areturn, 1) := by decide +kernel
theorem dJx4a65c_grow_92f84_45 : decode cJx4a65c_grow_92f84 45 = .ok (.aload_n 0, 1) := by decide +kernel
theorem dJx4a65c_grow_92f84_46 : decode cJx4a65c_grow_92f84 46 = .ok (.bipush 10, 2) := by decide +kernel
theorem dJx4a65c_grow_92f84_48 : decode cJx4a65c_grow_92f84 48 = .ok (.iload_n 1, 1) := by decide +kernel
theorem dJx4a65c_grow_92f84_49 : decode cJx4a65c_grow_92f84 49 = .ok (.invokestatic 79, 3) := by decide +kernel
theorem dJx4a65c_grow_92f84_52 : decode cJx4a65c_grow_92f84 52 = .ok (.anewarray 7, 3) := by decide +kernel
theorem dJx4a65c_grow_92f84_55 : decode cJx4a65c_grow_92f84 55 = .ok (.dup_x1, 1) := by decide +kernel
theorem dJx4a65c_grow_92f84_56 : decode cJx4a65c_grow_92f84 56 = .ok (.putfield 9, 3) := by decide +kernel
theorem dJx4a65c_grow_92f84_59 : decode cJx4a65c_grow_92f84 59 = .ok (.areturn, 1) := by decide +kernel
theorem dJx4a65c_grow_d5877_0 : decode cJx4a65c_grow_d5877 0 = .ok (.aload_n 0, 1) := by decide +kernel
theorem dJx4a65c_grow_d5877_1 : decode cJx4a65c_grow_d5877 1 = .ok (.aload_n 0, 1) := by decide +kernel
theorem dJx4a65c_grow_d5877_2 : decode cJx4a65c_grow_d5877 2 = .ok (.getfield 48, 3) := by decide +kernel
theorem dJx4a65c_grow_d5877_5 : decode cJx4a65c_grow_d5877 5 = .ok (.iconst 1, 1) := by decide +kernel
theorem dJx4a65c_grow_d5877_6 : decode cJx4a65c_grow_d5877 6 = .ok (.iadd, 1) := by decide +kernel
theorem dJx4a65c_grow_d5877_7 : decode cJx4a65c_grow_d5877 7 = .ok (.invokevirtual 69, 3) := by decide +kernel
theorem dJx4a65c_grow_d5877_10 : decode cJx4a65c_grow_d5877 10 = .ok (.areturn, 1) := by decide +kernel
theorem dJx4a65c_init_da8c8_0 : decode cJx4a65c_init_da8c8 0 = .ok (.aload_n 0, 1) := by decide +kernel
theorem dJx4a65c_init_da8c8_1 : decode cJx4a65c_init_da8c8 1 = .ok (.invokespecial 1, 3) := by decide +kernel
theorem dJx4a65c_init_da8c8_4 : decode cJx4a65c_init_da8c8 4 = .ok (.aload_n 0, 1) := by decide +kernel
theorem dJx4a65c_init_da8c8_5 : decode cJx4a65c_init_da8c8 5 = .ok (.getstatic 39, 3) := by decide +kernel
theorem dJx4a65c_init_da8c8_8 : decode cJx4a65c_init_da8c8 8 = .ok (.putfield 9, 3) := by decide +kernel
theorem dJx4a65c_init_da8c8_11 : decode cJx4a65c_init_da8c8 11 = .ok (.return_, 1) := by decide +kernel
theorem dJx4a65c_iterator_32c93_0 : decode cJx4a65c_iterator_32c93 0 = .ok (.new 267, 3) := by decide +kernel
theorem dJx4a65c_iterator_32c93_3 : decode cJx4a65c_iterator_32c93 3 = .ok (.dup, 1) := by decide +kernel
theorem dJx4a65c_iterator_32c93_4 : decode cJx4a65c_iterator_32c93 4 = .ok (.aload_n 0, 1) := by decide +kernel
theorem dJx4a65c_iterator_32c93_5 : decode cJx4a65c_iterator_32c93 5 = .ok (.invokespecial 269, 3) := by decide +kernel
theorem dJx4a65c_iterator_32c93_8 : decode cJx4a65c_iterator_32c93 8 = .ok (.areturn, 1) := by decide +kernel
theorem dJx4a65c_size_8abf5_0 : decode cJx4a65c_size_8abf5 0 = .ok (.aload_n 0, 1) := by decide +kernel
theorem dJx4a65c_size_8abf5_1 : decode cJx4a65c_size_8abf5 1 = .ok (.getfield 48, 3) := by decide +kernel
theorem dJx4a65c_size_8abf5_4 : decode cJx4a65c_size_8abf5 4 = .ok (.ireturn, 1) := by decide +kernel
theorem dJxa1e45_init_da8c8_0 : decode cJxa1e45_init_da8c8 0 = .ok (.aload_n 0, 1) := by decide +kernel
theorem dJxa1e45_init_da8c8_1 : decode cJxa1e45_init_da8c8 1 = .ok (.invokespecial 1, 3) := by decide +kernel
theorem dJxa1e45_init_da8c8_4 : decode cJxa1e45_init_da8c8 4 = .ok (.return_, 1) := by decide +kernel
theorem dJxc12de_init_da8c8_0 : decode cJxc12de_init_da8c8 0 = .ok (.aload_n 0, 1) := by decide +kernel
theorem dJxc12de_init_da8c8_1 : decode cJxc12de_init_da8c8 1 = .ok (.invokespecial 1, 3) := by decide +kernel
theorem dJxc12de_init_da8c8_4 : decode cJxc12de_init_da8c8 4 = .ok (.aload_n 0, 1) := by decide +kernel
theorem dJxc12de_init_da8c8_5 : decode cJxc12de_init_da8c8 5 = .ok (.iconst 0, 1) := by decide +kernel
theorem dJxc12de_init_da8c8_6 : decode cJxc12de_init_da8c8 6 = .ok (.putfield 7, 3) := by decide +kernel
theorem dJxc12de_init_da8c8_9 : decode cJxc12de_init_da8c8 9 = .ok (.return_, 1) := by decide +kernel
theorem dX13_init_0 : decode cX13_init 0 = .ok (.aload_n 0, 1) := by decide +kernel
theorem dX13_init_1 : decode cX13_init 1 = .ok (.invokespecial 3, 3) := by decide +kernel
theorem dX13_init_4 : decode cX13_init 4 = .ok (.aload_n 0, 1) := by decide +kernel
theorem dX13_init_5 : decode cX13_init 5 = .ok (.iconst (-1), 1) := by decide +kernel
theorem dX13_init_6 : decode cX13_init 6 = .ok (.putfield 9, 3) := by decide +kernel
theorem dX13_init_9 : decode cX13_init 9 = .ok (.aload_n 0, 1) := by decide +kernel
theorem dX13_init_10 : decode cX13_init 10 = .ok (.iconst (-1), 1) := by decide +kernel
theorem dX13_init_11 : decode cX13_init 11 = .ok (.putfield 15, 3) := by decide +kernel
theorem dX13_init_14 : decode cX13_init 14 = .ok (.aload_n 0, 1) := by decide +kernel
theorem dX13_init_15 : decode cX13_init 15 = .ok (.iconst (-1), 1) := by decide +kernel
theorem dX13_init_16 : decode cX13_init 16 = .ok (.putfield 18, 3) := by decide +kernel
theorem dX13_init_19 : decode cX13_init 19 = .ok (.aload_n 0, 1) := by decide +kernel
theorem dX13_init_20 : decode cX13_init 20 = .ok (.iload_n 1, 1) := by decide +kernel
theorem dX13_init_21 : decode cX13_init 21 = .ok (.putfield 21, 3) := by decide +kernel
theorem dX13_init_24 : decode cX13_init 24 = .ok (.aload_n 0, 1) := by decide +kernel
theorem dX13_init_25 : decode cX13_init 25 = .ok (.aload_n 2, 1) := by decide +kernel
theorem dX13_init_26 : decode cX13_init 26 = .ok (.putfield 25, 3) := by decide +kernel
theorem dX13_init_29 : decode cX13_init 29 = .ok (.return_, 1) := by decide +kernel
theorem dX15_addSource_0 : decode cX15_addSource 0 = .ok (.aload_n 0, 1) := by decide +kernel
theorem dX15_addSource_1 : decode cX15_addSource 1 = .ok (.aload_n 0, 1) := by decide +kernel
theorem dX15_addSource_2 : decode cX15_addSource 2 = .ok (.getfield 102, 3) := by decide +kernel
theorem dX15_addSource_5 : decode cX15_addSource 5 = .ok (.ifCond .eq 7, 3) := by decide +kernel
theorem dX15_addSource_8 : decode cX15_addSource 8 = .ok (.iconst 1, 1) := by decide +kernel
theorem dX15_addSource_9 : decode cX15_addSource 9 = .ok (.goto 36, 3) := by decide +kernel
theorem dX15_addSource_12 : decode cX15_addSource 12 = .ok (.aload_n 0, 1) := by decide +kernel
theorem dX15_addSource_13 : decode cX15_addSource 13 = .ok (.getfield 16, 3) := by decide +kernel
theorem dX15_addSource_16 : decode cX15_addSource 16 = .ok (.invokeinterface 92 1, 5) := by decide +kernel
theorem dX15_addSource_21 : decode cX15_addSource 21 = .ok (.bipush 40, 2) := by decide +kernel
theorem dX15_addSource_23 : decode cX15_addSource 23 = .ok (.if_icmp .eq 17, 3) := by decide +kernel
theorem dX15_addSource_26 : decode cX15_addSource 26 = .ok (.aload_n 0, 1) := by decide +kernel
theorem dX15_addSource_27 : decode cX15_addSource 27 = .ok (.getfield 20, 3) := by decide +kernel
theorem dX15_addSource_30 : decode cX15_addSource 30 = .ok (.invokeinterface 92 1, 5) := by decide +kernel
theorem dX15_addSource_35 : decode cX15_addSource 35 = .ok (.bipush 12, 2) := by decide +kernel
theorem dX15_addSource_37 : decode cX15_addSource 37 = .ok (.if_icmp .ne 7, 3) := by decide +kernel
theorem dX15_addSource_40 : decode cX15_addSource 40 = .ok (.iconst 2, 1) := by decide +kernel
theorem dX15_addSource_41 : decode cX15_addSource 41 = .ok (.goto 4, 3) := by decide +kernel
theorem dX15_addSource_44 : decode cX15_addSource 44 = .ok (.iconst 0, 1) := by decide +kernel
theorem dX15_addSource_45 : decode cX15_addSource 45 = .ok (.invokevirtual 106, 3) := by decide +kernel
theorem dX15_addSource_48 : decode cX15_addSource 48 = .ok (.ifCond .eq 5, 3) := by decide +kernel
theorem dX15_addSource_51 : decode cX15_addSource 51 = .ok (.iconst 0, 1) := by decide +kernel
theorem dX15_addSource_52 : decode cX15_addSource 52 = .ok (.ireturn, 1) := by decide +kernel
theorem dX15_addSource_53 : decode cX15_addSource 53 = .ok (.new 110, 3) := by decide +kernel
theorem dX15_addSource_56 : decode cX15_addSource 56 = .ok (.dup, 1) := by decide +kernel
theorem dX15_addSource_57 : decode cX15_addSource 57 = .ok (.iload_n 1, 1) := by decide +kernel
theorem dX15_addSource_58 : decode cX15_addSource 58 = .ok (.iconst 0, 1) := by decide +kernel
theorem dX15_addSource_59 : decode cX15_addSource 59 = .ok (.newarray .int, 2) := by decide +kernel
theorem dX15_addSource_61 : decode cX15_addSource 61 = .ok (.invokespecial 112, 3) := by decide +kernel
theorem dX15_addSource_64 : decode cX15_addSource 64 = .ok (.astore_n 2, 1) := by decide +kernel
theorem dX15_addSource_65 : decode cX15_addSource 65 = .ok (.aload_n 2, 1) := by decide +kernel
theorem dX15_addSource_66 : decode cX15_addSource 66 = .ok (.aload_n 0, 1) := by decide +kernel
theorem dX15_addSource_67 : decode cX15_addSource 67 = .ok (.getfield 20, 3) := by decide +kernel
theorem dX15_addSource_70 : decode cX15_addSource 70 = .ok (.invokeinterface 92 1, 5) := by decide +kernel
theorem dX15_addSource_75 : decode cX15_addSource 75 = .ok (.putfield 115, 3) := by decide +kernel
theorem dX15_addSource_78 : decode cX15_addSource 78 = .ok (.aload_n 0, 1) := by decide +kernel
theorem dX15_addSource_79 : decode cX15_addSource 79 = .ok (.getfield 20, 3) := by decide +kernel
theorem dX15_addSource_82 : decode cX15_addSource 82 = .ok (.aload_n 0, 1) := by decide +kernel
theorem dX15_addSource_83 : decode cX15_addSource 83 = .ok (.getfield 16, 3) := by decide +kernel
theorem dX15_addSource_86 : decode cX15_addSource 86 = .ok (.invokeinterface 92 1, 5) := by decide +kernel
theorem dX15_addSource_91 : decode cX15_addSource 91 = .ok (.invokestatic 118, 3) := by decide +kernel
theorem dX15_addSource_94 : decode cX15_addSource 94 = .ok (.invokeinterface 124 2, 5) := by decide +kernel
theorem dX15_addSource_99 : decode cX15_addSource 99 = .ok (.pop, 1) := by decide +kernel
theorem dX15_addSource_100 : decode cX15_addSource 100 = .ok (.iload_n 1, 1) := by decide +kernel
theorem dX15_addSource_101 : decode cX15_addSource 101 = .ok (.bipush 102, 2) := by decide +kernel
theorem dX15_addSource_103 : decode cX15_addSource 103 = .ok (.if_icmp .ne 25, 3) := by decide +kernel
theorem dX15_addSource_106 : decode cX15_addSource 106 = .ok (.aload_n 0, 1) := by decide +kernel
theorem dX15_addSource_107 : decode cX15_addSource 107 = .ok (.getfield 23, 3) := by decide +kernel
theorem dX15_addSource_110 : decode cX15_addSource 110 = .ok (.aload_n 0, 1) := by decide +kernel
theorem dX15_addSource_111 : decode cX15_addSource 111 = .ok (.getfield 16, 3) := by decide +kernel
theorem dX15_addSource_114 : decode cX15_addSource 114 = .ok (.invokeinterface 92 1, 5) := by decide +kernel
theorem dX15_addSource_119 : decode cX15_addSource 119 = .ok (.invokestatic 118, 3) := by decide +kernel
theorem dX15_addSource_122 : decode cX15_addSource 122 = .ok (.invokeinterface 124 2, 5) := by decide +kernel
theorem dX15_addSource_127 : decode cX15_addSource 127 = .ok (.pop, 1) := by decide +kernel
theorem dX15_addSource_128 : decode cX15_addSource 128 = .ok (.aload_n 0, 1) := by decide +kernel
theorem dX15_addSource_129 : decode cX15_addSource 129 = .ok (.getfield 16, 3) := by decide +kernel
theorem dX15_addSource_132 : decode cX15_addSource 132 = .ok (.aload_n 2, 1) := by decide +kernel
theorem dX15_addSource_133 : decode cX15_addSource 133 = .ok (.invokeinterface 124 2, 5) := by decide +kernel
theorem dX15_addSource_138 : decode cX15_addSource 138 = .ok (.pop, 1) := by decide +kernel
theorem dX15_addSource_139 : decode cX15_addSource 139 = .ok (.aload_n 0, 1) := by decide +kernel
theorem dX15_addSource_140 : decode cX15_addSource 140 = .ok (.getfield 16, 3) := by decide +kernel
theorem dX15_addSource_143 : decode cX15_addSource 143 = .ok (.invokeinterface 92 1, 5) := by decide +kernel
theorem dX15_addSource_148 : decode cX15_addSource 148 = .ok (.iconst 1, 1) := by decide +kernel
theorem dX15_addSource_149 : decode cX15_addSource 149 = .ok (.isub, 1) := by decide +kernel
theorem dX15_addSource_150 : decode cX15_addSource 150 = .ok (.ireturn, 1) := by decide +kernel
theorem dX15_aliased_0 : decode cX15_aliased 0 = .ok (.aload_n 0, 1) := by decide +kernel
theorem dX15_aliased_1 : decode cX15_aliased 1 = .ok (.iconst 0, 1) := by decide +kernel
theorem dX15_aliased_2 : decode cX15_aliased 2 = .ok (.putfield 1, 3) := by decide +kernel
theorem dX15_aliased_5 : decode cX15_aliased 5 = .ok (.iconst 0, 1) := by decide +kernel
theorem dX15_aliased_6 : decode cX15_aliased 6 = .ok (.istore_n 1, 1) := by decide +kernel
theorem dX15_aliased_7 : decode cX15_aliased 7 = .ok (.aload_n 0, 1) := by decide +kernel
theorem dX15_aliased_8 : decode cX15_aliased 8 = .ok (.aconst_null, 1) := by decide +kernel
theorem dX15_aliased_9 : decode cX15_aliased 9 = .ok (.invokevirtual 389, 3) := by decide +kernel
theorem dX15_aliased_12 : decode cX15_aliased 12 = .ok (.istore_n 2, 1) := by decide +kernel
theorem dX15_aliased_13 : decode cX15_aliased 13 = .ok (.aload_n 0, 1) := by decide +kernel
theorem dX15_aliased_14 : decode cX15_aliased 14 = .ok (.invokevirtual 318, 3) := by decide +kernel
theorem dX15_aliased_17 : decode cX15_aliased 17 = .ok (.invokeinterface 156 1, 5) := by decide +kernel
theorem dX15_aliased_22 : decode cX15_aliased 22 = .ok (.astore_n 3, 1) := by decide +kernel
theorem dX15_aliased_23 : decode cX15_aliased 23 = .ok (.aload_n 3, 1) := by decide +kernel
theorem dX15_aliased_24 : decode cX15_aliased 24 = .ok (.invokeinterface 160 1, 5) := by decide +kernel
theorem dX15_aliased_29 : decode cX15_aliased 29 = .ok (.ifCond .eq 63, 3) := by decide +kernel
theorem dX15_aliased_32 : decode cX15_aliased 32 = .ok (.aload_n 3, 1) := by decide +kernel
theorem dX15_aliased_33 : decode cX15_aliased 33 = .ok (.invokeinterface 166 1, 5) := by decide +kernel
theorem dX15_aliased_38 : decode cX15_aliased 38 = .ok (.checkcast 119, 3) := by decide +kernel
theorem dX15_aliased_41 : decode cX15_aliased 41 = .ok (.invokevirtual 194, 3) := by decide +kernel
theorem dX15_aliased_44 : decode cX15_aliased 44 = .ok (.istore 4, 2) := by decide +kernel
theorem dX15_aliased_46 : decode cX15_aliased 46 = .ok (.iload_n 1, 1) := by decide +kernel
theorem dX15_aliased_47 : decode cX15_aliased 47 = .ok (.aload_n 0, 1) := by decide +kernel
theorem dX15_aliased_48 : decode cX15_aliased 48 = .ok (.iload 4, 2) := by decide +kernel
theorem dX15_aliased_50 : decode cX15_aliased 50 = .ok (.bipush 115, 2) := by decide +kernel
theorem dX15_aliased_52 : decode cX15_aliased 52 = .ok (.invokevirtual 345, 3) := by decide +kernel
theorem dX15_aliased_55 : decode cX15_aliased 55 = .ok (.lconst 0, 1) := by decide +kernel
theorem dX15_aliased_56 : decode cX15_aliased 56 = .ok (.lcmp, 1) := by decide +kernel
theorem dX15_aliased_57 : decode cX15_aliased 57 = .ok (.ifCond .eq 29, 3) := by decide +kernel
theorem dX15_aliased_60 : decode cX15_aliased 60 = .ok (.aload_n 0, 1) := by decide +kernel
theorem dX15_aliased_61 : decode cX15_aliased 61 = .ok (.aload_n 0, 1) := by decide +kernel
theorem dX15_aliased_62 : decode cX15_aliased 62 = .ok (.getfield 26, 3) := by decide +kernel
theorem dX15_aliased_65 : decode cX15_aliased 65 = .ok (.iload 4, 2) := by decide +kernel
theorem dX15_aliased_67 : decode cX15_aliased 67 = .ok (.invokeinterface 143 2, 5) := by decide +kernel
theorem dX15_aliased_72 : decode cX15_aliased 72 = .ok (.checkcast 170, 3) := by decide +kernel
theorem dX15_aliased_75 : decode cX15_aliased 75 = .ok (.invokevirtual 389, 3) := by decide +kernel
theorem dX15_aliased_78 : decode cX15_aliased 78 = .ok (.iload_n 2, 1) := by decide +kernel
theorem dX15_aliased_79 : decode cX15_aliased 79 = .ok (.if_icmp .ne 7, 3) := by decide +kernel
theorem dX15_aliased_82 : decode cX15_aliased 82 = .ok (.iconst 1, 1) := by decide +kernel
theorem dX15_aliased_83 : decode cX15_aliased 83 = .ok (.goto 4, 3) := by decide +kernel
theorem dX15_aliased_86 : decode cX15_aliased 86 = .ok (.iconst 0, 1) := by decide +kernel
theorem dX15_aliased_87 : decode cX15_aliased 87 = .ok (.iadd, 1) := by decide +kernel
theorem dX15_aliased_88 : decode cX15_aliased 88 = .ok (.istore_n 1, 1) := by decide +kernel
theorem dX15_aliased_89 : decode cX15_aliased 89 = .ok (.goto (-66), 3) := by decide +kernel
theorem dX15_aliased_92 : decode cX15_aliased 92 = .ok (.iload_n 1, 1) := by decide +kernel
theorem dX15_aliased_93 : decode cX15_aliased 93 = .ok (.ireturn, 1) := by decide +kernel
theorem dX15_alike_0 : decode cX15_alike 0 = .ok (.aload_n 0, 1) := by decide +kernel
theorem dX15_alike_1 : decode cX15_alike 1 = .ok (.aload_n 0, 1) := by decide +kernel
theorem dX15_alike_2 : decode cX15_alike 2 = .ok (.iload_n 1, 1) := by decide +kernel
theorem dX15_alike_3 : decode cX15_alike 3 = .ok (.invokevirtual 286, 3) := by decide +kernel
theorem dX15_alike_6 : decode cX15_alike 6 = .ok (.ifCond .eq 7, 3) := by decide +kernel
theorem dX15_alike_9 : decode cX15_alike 9 = .ok (.iconst 0, 1) := by decide +kernel
theorem dX15_alike_10 : decode cX15_alike 10 = .ok (.goto 4, 3) := by decide +kernel
theorem dX15_alike_13 : decode cX15_alike 13 = .ok (.iconst 1, 1) := by decide +kernel
theorem dX15_alike_14 : decode cX15_alike 14 = .ok (.invokevirtual 106, 3) := by decide +kernel
theorem dX15_alike_17 : decode cX15_alike 17 = .ok (.ifCond .eq 7, 3) := by decide +kernel
theorem dX15_alike_20 : decode cX15_alike 20 = .ok (.iconst 0, 1) := by decide +kernel
theorem dX15_alike_21 : decode cX15_alike 21 = .ok (.goto 21, 3) := by decide +kernel
theorem dX15_alike_24 : decode cX15_alike 24 = .ok (.iload_n 1, 1) := by decide +kernel
theorem dX15_alike_25 : decode cX15_alike 25 = .ok (.aload_n 0, 1) := by decide +kernel
theorem dX15_alike_26 : decode cX15_alike 26 = .ok (.getfield 188, 3) := by decide +kernel
theorem dX15_alike_29 : decode cX15_alike 29 = .ok (.if_icmp .ge 12, 3) := by decide +kernel
theorem dX15_alike_32 : decode cX15_alike 32 = .ok (.aload_n 0, 1) := by decide +kernel
theorem dX15_alike_33 : decode cX15_alike 33 = .ok (.invokevirtual 314, 3) := by decide +kernel
theorem dX15_alike_36 : decode cX15_alike 36 = .ok (.iload_n 1, 1) := by decide +kernel
theorem dX15_alike_37 : decode cX15_alike 37 = .ok (.iaload, 1) := by decide +kernel
theorem dX15_alike_38 : decode cX15_alike 38 = .ok (.goto 4, 3) := by decide +kernel
theorem dX15_alike_41 : decode cX15_alike 41 = .ok (.iload_n 1, 1) := by decide +kernel
theorem dX15_alike_42 : decode cX15_alike 42 = .ok (.ireturn, 1) := by decide +kernel
theorem dX15_allClasses_0 : decode cX15_allClasses 0 = .ok (.new 13, 3) := by decide +kernel
theorem dX15_allClasses_3 : decode cX15_allClasses 3 = .ok (.dup, 1) := by decide +kernel
theorem dX15_allClasses_4 : decode cX15_allClasses 4 = .ok (.invokespecial 15, 3) := by decide +kernel
theorem dX15_allClasses_7 : decode cX15_allClasses 7 = .ok (.astore_n 1, 1) := by decide +kernel
theorem dX15_allClasses_8 : decode cX15_allClasses 8 = .ok (.aload_n 0, 1) := by decide +kernel
theorem dX15_allClasses_9 : decode cX15_allClasses 9 = .ok (.invokevirtual 314, 3) := by decide +kernel
theorem dX15_allClasses_12 : decode cX15_allClasses 12 = .ok (.astore_n 2, 1) := by decide +kernel
theorem dX15_allClasses_13 : decode cX15_allClasses 13 = .ok (.iconst 0, 1) := by decide +kernel
theorem dX15_allClasses_14 : decode cX15_allClasses 14 = .ok (.istore_n 3, 1) := by decide +kernel
theorem dX15_allClasses_15 : decode cX15_allClasses 15 = .ok (.iload_n 3, 1) := by decide +kernel
theorem dX15_allClasses_16 : decode cX15_allClasses 16 = .ok (.aload_n 0, 1) := by decide +kernel
theorem dX15_allClasses_17 : decode cX15_allClasses 17 = .ok (.getfield 188, 3) := by decide +kernel
theorem dX15_allClasses_20 : decode cX15_allClasses 20 = .ok (.if_icmp .ge 27, 3) := by decide +kernel
theorem dX15_allClasses_23 : decode cX15_allClasses 23 = .ok (.aload_n 2, 1) := by decide +kernel
theorem dX15_allClasses_24 : decode cX15_allClasses 24 = .ok (.iload_n 3, 1) := by decide +kernel
theorem dX15_allClasses_25 : decode cX15_allClasses 25 = .ok (.iaload, 1) := by decide +kernel
theorem dX15_allClasses_26 : decode cX15_allClasses 26 = .ok (.iload_n 3, 1) := by decide +kernel
theorem dX15_allClasses_27 : decode cX15_allClasses 27 = .ok (.if_icmp .ne 14, 3) := by decide +kernel
theorem dX15_allClasses_30 : decode cX15_allClasses 30 = .ok (.aload_n 1, 1) := by decide +kernel
theorem dX15_allClasses_31 : decode cX15_allClasses 31 = .ok (.iload_n 3, 1) := by decide +kernel
theorem dX15_allClasses_32 : decode cX15_allClasses 32 = .ok (.invokestatic 118, 3) := by decide +kernel
theorem dX15_allClasses_35 : decode cX15_allClasses 35 = .ok (.invokeinterface 124 2, 5) := by decide +kernel
theorem dX15_allClasses_40 : decode cX15_allClasses 40 = .ok (.pop, 1) := by decide +kernel
theorem dX15_allClasses_41 : decode cX15_allClasses 41 = .ok (.iinc 3 1, 3) := by decide +kernel
theorem dX15_allClasses_44 : decode cX15_allClasses 44 = .ok (.goto (-29), 3) := by decide +kernel
theorem dX15_allClasses_47 : decode cX15_allClasses 47 = .ok (.aload_n 1, 1) := by decide +kernel
theorem dX15_allClasses_48 : decode cX15_allClasses 48 = .ok (.areturn, 1) := by decide +kernel
theorem dX15_badWires_0 : decode cX15_badWires 0 = .ok (.aload_n 0, 1) := by decide +kernel
theorem dX15_badWires_1 : decode cX15_badWires 1 = .ok (.iload_n 1, 1) := by decide +kernel
theorem dX15_badWires_2 : decode cX15_badWires 2 = .ok (.bipush 99, 2) := by decide +kernel
theorem dX15_badWires_4 : decode cX15_badWires 4 = .ok (.if_icmp .eq 13, 3) := by decide +kernel
theorem dX15_badWires_7 : decode cX15_badWires 7 = .ok (.iload_n 1, 1) := by decide +kernel
theorem dX15_badWires_8 : decode cX15_badWires 8 = .ok (.bipush 116, 2) := by decide +kernel
theorem dX15_badWires_10 : decode cX15_badWires 10 = .ok (.if_icmp .eq 7, 3) := by decide +kernel
theorem dX15_badWires_13 : decode cX15_badWires 13 = .ok (.iconst 1, 1) := by decide +kernel
theorem dX15_badWires_14 : decode cX15_badWires 14 = .ok (.goto 4, 3) := by decide +kernel
theorem dX15_badWires_17 : decode cX15_badWires 17 = .ok (.iconst 0, 1) := by decide +kernel
theorem dX15_badWires_18 : decode cX15_badWires 18 = .ok (.invokevirtual 106, 3) := by decide +kernel
theorem dX15_badWires_21 : decode cX15_badWires 21 = .ok (.ifCond .eq 5, 3) := by decide +kernel
theorem dX15_badWires_24 : decode cX15_badWires 24 = .ok (.iconst 0, 1) := by decide +kernel
theorem dX15_badWires_25 : decode cX15_badWires 25 = .ok (.ireturn, 1) := by decide +kernel
theorem dX15_badWires_26 : decode cX15_badWires 26 = .ok (.iconst 0, 1) := by decide +kernel
theorem dX15_badWires_27 : decode cX15_badWires 27 = .ok (.istore_n 2, 1) := by decide +kernel
theorem dX15_badWires_28 : decode cX15_badWires 28 = .ok (.iconst 0, 1) := by decide +kernel
theorem dX15_badWires_29 : decode cX15_badWires 29 = .ok (.istore_n 3, 1) := by decide +kernel
theorem dX15_badWires_30 : decode cX15_badWires 30 = .ok (.iload_n 3, 1) := by decide +kernel
theorem dX15_badWires_31 : decode cX15_badWires 31 = .ok (.aload_n 0, 1) := by decide +kernel
theorem dX15_badWires_32 : decode cX15_badWires 32 = .ok (.getfield 492, 3) := by decide +kernel
theorem dX15_badWires_35 : decode cX15_badWires 35 = .ok (.if_icmp .ge 34, 3) := by decide +kernel
theorem dX15_badWires_38 : decode cX15_badWires 38 = .ok (.iload_n 2, 1) := by decide +kernel
theorem dX15_badWires_39 : decode cX15_badWires 39 = .ok (.aload_n 0, 1) := by decide +kernel
theorem dX15_badWires_40 : decode cX15_badWires 40 = .ok (.iload_n 3, 1) := by decide +kernel
theorem dX15_badWires_41 : decode cX15_badWires 41 = .ok (.iload_n 1, 1) := by decide +kernel
theorem dX15_badWires_42 : decode cX15_badWires 42 = .ok (.invokevirtual 519, 3) := by decide +kernel
theorem dX15_badWires_45 : decode cX15_badWires 45 = .ok (.aload_n 0, 1) := by decide +kernel
theorem dX15_badWires_46 : decode cX15_badWires 46 = .ok (.iload_n 3, 1) := by decide +kernel
theorem dX15_badWires_47 : decode cX15_badWires 47 = .ok (.iload_n 1, 1) := by decide +kernel
theorem dX15_badWires_48 : decode cX15_badWires 48 = .ok (.invokevirtual 511, 3) := by decide +kernel
theorem dX15_badWires_51 : decode cX15_badWires 51 = .ok (.if_icmp .eq 9, 3) := by decide +kernel
theorem dX15_badWires_54 : decode cX15_badWires 54 = .ok (.iconst 1, 1) := by decide +kernel
theorem dX15_badWires_55 : decode cX15_badWires 55 = .ok (.iload_n 3, 1) := by decide +kernel
theorem dX15_badWires_56 : decode cX15_badWires 56 = .ok (.ishl, 1) := by decide +kernel
theorem dX15_badWires_57 : decode cX15_badWires 57 = .ok (.goto 4, 3) := by decide +kernel
theorem dX15_badWires_60 : decode cX15_badWires 60 = .ok (.iconst 0, 1) := by decide +kernel
theorem dX15_badWires_61 : decode cX15_badWires 61 = .ok (.ior, 1) := by decide +kernel
theorem dX15_badWires_62 : decode cX15_badWires 62 = .ok (.istore_n 2, 1) := by decide +kernel
theorem dX15_badWires_63 : decode cX15_badWires 63 = .ok (.iinc 3 1, 3) := by decide +kernel
theorem dX15_badWires_66 : decode cX15_badWires 66 = .ok (.goto (-36), 3) := by decide +kernel
theorem dX15_badWires_69 : decode cX15_badWires 69 = .ok (.iload_n 2, 1) := by decide +kernel
theorem dX15_badWires_70 : decode cX15_badWires 70 = .ok (.ireturn, 1) := by decide +kernel
theorem dX15_begins_0 : decode cX15_begins 0 = .ok (.aload_n 0, 1) := by decide +kernel
theorem dX15_begins_1 : decode cX15_begins 1 = .ok (.iload_n 3, 1) := by decide +kernel
theorem dX15_begins_2 : decode cX15_begins 2 = .ok (.iconst 0, 1) := by decide +kernel
theorem dX15_begins_3 : decode cX15_begins 3 = .ok (.aload_n 0, 1) := by decide +kernel
theorem dX15_begins_4 : decode cX15_begins 4 = .ok (.getfield 83, 3) := by decide +kernel
theorem dX15_begins_7 : decode cX15_begins 7 = .ok (.invokeinterface 92 1, 5) := by decide +kernel
theorem dX15_begins_12 : decode cX15_begins 12 = .ok (.iconst 1, 1) := by decide +kernel
theorem dX15_begins_13 : decode cX15_begins 13 = .ok (.isub, 1) := by decide +kernel
theorem dX15_begins_14 : decode cX15_begins 14 = .ok (.invokestatic 98, 3) := by decide +kernel
theorem dX15_begins_17 : decode cX15_begins 17 = .ok (.ifCond .ne 7, 3) := by decide +kernel
theorem dX15_begins_20 : decode cX15_begins 20 = .ok (.iconst 1, 1) := by decide +kernel
theorem dX15_begins_21 : decode cX15_begins 21 = .ok (.goto 17, 3) := by decide +kernel
theorem dX15_begins_24 : decode cX15_begins 24 = .ok (.aload_n 0, 1) := by decide +kernel
theorem dX15_begins_25 : decode cX15_begins 25 = .ok (.iload_n 1, 1) := by decide +kernel
theorem dX15_begins_26 : decode cX15_begins 26 = .ok (.iload_n 2, 1) := by decide +kernel
theorem dX15_begins_27 : decode cX15_begins 27 = .ok (.invokevirtual 537, 3) := by decide +kernel
theorem dX15_begins_30 : decode cX15_begins 30 = .ok (.ifCond .ne 7, 3) := by decide +kernel
theorem dX15_begins_33 : decode cX15_begins 33 = .ok (.iconst 2, 1) := by decide +kernel
theorem dX15_begins_34 : decode cX15_begins 34 = .ok (.goto 4, 3) := by decide +kernel
theorem dX15_begins_37 : decode cX15_begins 37 = .ok (.iconst 0, 1) := by decide +kernel
theorem dX15_begins_38 : decode cX15_begins 38 = .ok (.invokevirtual 106, 3) := by decide +kernel
theorem dX15_begins_41 : decode cX15_begins 41 = .ok (.ifCond .eq 5, 3) := by decide +kernel
theorem dX15_begins_44 : decode cX15_begins 44 = .ok (.iconst 0, 1) := by decide +kernel
theorem dX15_begins_45 : decode cX15_begins 45 = .ok (.ireturn, 1) := by decide +kernel
theorem dX15_begins_46 : decode cX15_begins 46 = .ok (.aload_n 0, 1) := by decide +kernel
theorem dX15_begins_47 : decode cX15_begins 47 = .ok (.iload_n 1, 1) := by decide +kernel
theorem dX15_begins_48 : decode cX15_begins 48 = .ok (.iload_n 2, 1) := by decide +kernel
theorem dX15_begins_49 : decode cX15_begins 49 = .ok (.invokevirtual 540, 3) := by decide +kernel
theorem dX15_begins_52 : decode cX15_begins 52 = .ok (.aload_n 0, 1) := by decide +kernel
theorem dX15_begins_53 : decode cX15_begins 53 = .ok (.getfield 523, 3) := by decide +kernel
theorem dX15_begins_56 : decode cX15_begins 56 = .ok (.iload_n 3, 1) := by decide +kernel
theorem dX15_begins_57 : decode cX15_begins 57 = .ok (.iaload, 1) := by decide +kernel
theorem dX15_begins_58 : decode cX15_begins 58 = .ok (.ireturn, 1) := by decide +kernel
theorem dX15_breakChain_0 : decode cX15_breakChain 0 = .ok (.iload_n 1, 1) := by decide +kernel
theorem dX15_breakChain_1 : decode cX15_breakChain 1 = .ok (.iconst (-1), 1) := by decide +kernel
theorem dX15_breakChain_2 : decode cX15_breakChain 2 = .ok (.aload_n 0, 1) := by decide +kernel
theorem dX15_breakChain_3 : decode cX15_breakChain 3 = .ok (.getfield 23, 3) := by decide +kernel
theorem dX15_breakChain_6 : decode cX15_breakChain 6 = .ok (.invokeinterface 92 1, 5) := by decide +kernel
theorem dX15_breakChain_11 : decode cX15_breakChain 11 = .ok (.iconst 1, 1) := by decide +kernel
theorem dX15_breakChain_12 : decode cX15_breakChain 12 = .ok (.isub, 1) := by decide +kernel
theorem dX15_breakChain_13 : decode cX15_breakChain 13 = .ok (.invokestatic 98, 3) := by decide +kernel
theorem dX15_breakChain_16 : decode cX15_breakChain 16 = .ok (.ifCond .eq 16, 3) := by decide +kernel
theorem dX15_breakChain_19 : decode cX15_breakChain 19 = .ok (.iload_n 2, 1) := by decide +kernel
theorem dX15_breakChain_20 : decode cX15_breakChain 20 = .ok (.iconst 0, 1) := by decide +kernel
theorem dX15_breakChain_21 : decode cX15_breakChain 21 = .ok (.iconst 1, 1) := by decide +kernel
theorem dX15_breakChain_22 : decode cX15_breakChain 22 = .ok (.invokestatic 98, 3) := by decide +kernel
theorem dX15_breakChain_25 : decode cX15_breakChain 25 = .ok (.ifCond .eq 7, 3) := by decide +kernel
theorem dX15_breakChain_28 : decode cX15_breakChain 28 = .ok (.iconst 1, 1) := by decide +kernel
theorem dX15_breakChain_29 : decode cX15_breakChain 29 = .ok (.goto 4, 3) := by decide +kernel
theorem dX15_breakChain_32 : decode cX15_breakChain 32 = .ok (.iconst 0, 1) := by decide +kernel
theorem dX15_breakChain_33 : decode cX15_breakChain 33 = .ok (.istore_n 3, 1) := by decide +kernel
theorem dX15_breakChain_34 : decode cX15_breakChain 34 = .ok (.aload_n 0, 1) := by decide +kernel
theorem dX15_breakChain_35 : decode cX15_breakChain 35 = .ok (.iload_n 3, 1) := by decide +kernel
theorem dX15_breakChain_36 : decode cX15_breakChain 36 = .ok (.ifCond .ne 7, 3) := by decide +kernel
theorem dX15_breakChain_39 : decode cX15_breakChain 39 = .ok (.iconst 1, 1) := by decide +kernel
theorem dX15_breakChain_40 : decode cX15_breakChain 40 = .ok (.goto 15, 3) := by decide +kernel
theorem dX15_breakChain_43 : decode cX15_breakChain 43 = .ok (.aload_n 0, 1) := by decide +kernel
theorem dX15_breakChain_44 : decode cX15_breakChain 44 = .ok (.getfield 102, 3) := by decide +kernel
theorem dX15_breakChain_47 : decode cX15_breakChain 47 = .ok (.ifCond .ne 7, 3) := by decide +kernel
theorem dX15_breakChain_50 : decode cX15_breakChain 50 = .ok (.iconst 2, 1) := by decide +kernel
theorem dX15_breakChain_51 : decode cX15_breakChain 51 = .ok (.goto 4, 3) := by decide +kernel
theorem dX15_breakChain_54 : decode cX15_breakChain 54 = .ok (.iconst 0, 1) := by decide +kernel
theorem dX15_breakChain_55 : decode cX15_breakChain 55 = .ok (.invokevirtual 106, 3) := by decide +kernel
theorem dX15_breakChain_58 : decode cX15_breakChain 58 = .ok (.ifCond .eq 5, 3) := by decide +kernel
theorem dX15_breakChain_61 : decode cX15_breakChain 61 = .ok (.iconst 0, 1) := by decide +kernel
theorem dX15_breakChain_62 : decode cX15_breakChain 62 = .ok (.ireturn, 1) := by decide +kernel
theorem dX15_breakChain_63 : decode cX15_breakChain 63 = .ok (.aload_n 0, 1) := by decide +kernel
theorem dX15_breakChain_64 : decode cX15_breakChain 64 = .ok (.getfield 59, 3) := by decide +kernel
theorem dX15_breakChain_67 : decode cX15_breakChain 67 = .ok (.istore 4, 2) := by decide +kernel
theorem dX15_breakChain_69 : decode cX15_breakChain 69 = .ok (.aload_n 0, 1) := by decide +kernel
theorem dX15_breakChain_70 : decode cX15_breakChain 70 = .ok (.iload_n 1, 1) := by decide +kernel
theorem dX15_breakChain_71 : decode cX15_breakChain 71 = .ok (.putfield 59, 3) := by decide +kernel
theorem dX15_breakChain_74 : decode cX15_breakChain 74 = .ok (.aload_n 0, 1) := by decide +kernel
theorem dX15_breakChain_75 : decode cX15_breakChain 75 = .ok (.iload_n 2, 1) := by decide +kernel
theorem dX15_breakChain_76 : decode cX15_breakChain 76 = .ok (.putfield 427, 3) := by decide +kernel
theorem dX15_breakChain_79 : decode cX15_breakChain 79 = .ok (.iload 4, 2) := by decide +kernel
theorem dX15_breakChain_81 : decode cX15_breakChain 81 = .ok (.ireturn, 1) := by decide +kernel
theorem dX15_breakChip_0 : decode cX15_breakChip 0 = .ok (.aload_n 0, 1) := by decide +kernel
theorem dX15_breakChip_1 : decode cX15_breakChip 1 = .ok (.iload_n 1, 1) := by decide +kernel
theorem dX15_breakChip_2 : decode cX15_breakChip 2 = .ok (.invokevirtual 393, 3) := by decide +kernel
theorem dX15_breakChip_5 : decode cX15_breakChip 5 = .ok (.ifCond .ne 28, 3) := by decide +kernel
theorem dX15_breakChip_8 : decode cX15_breakChip 8 = .ok (.aload_n 0, 1) := by decide +kernel
theorem dX15_breakChip_9 : decode cX15_breakChip 9 = .ok (.aload_n 0, 1) := by decide +kernel
theorem dX15_breakChip_10 : decode cX15_breakChip 10 = .ok (.getfield 29, 3) := by decide +kernel
theorem dX15_breakChip_13 : decode cX15_breakChip 13 = .ok (.invokeinterface 92 1, 5) := by decide +kernel
theorem dX15_breakChip_18 : decode cX15_breakChip 18 = .ok (.iconst 2, 1) := by decide +kernel
theorem dX15_breakChip_19 : decode cX15_breakChip 19 = .ok (.if_icmp .ne 7, 3) := by decide +kernel
theorem dX15_breakChip_22 : decode cX15_breakChip 22 = .ok (.iconst 3, 1) := by decide +kernel
theorem dX15_breakChip_23 : decode cX15_breakChip 23 = .ok (.goto 4, 3) := by decide +kernel
theorem dX15_breakChip_26 : decode cX15_breakChip 26 = .ok (.iconst 0, 1) := by decide +kernel
theorem dX15_breakChip_27 : decode cX15_breakChip 27 = .ok (.invokevirtual 106, 3) := by decide +kernel
theorem dX15_breakChip_30 : decode cX15_breakChip 30 = .ok (.ifCond .eq 5, 3) := by decide +kernel
theorem dX15_breakChip_33 : decode cX15_breakChip 33 = .ok (.iconst 0, 1) := by decide +kernel
theorem dX15_breakChip_34 : decode cX15_breakChip 34 = .ok (.ireturn, 1) := by decide +kernel
theorem dX15_breakChip_35 : decode cX15_breakChip 35 = .ok (.aload_n 0, 1) := by decide +kernel
theorem dX15_breakChip_36 : decode cX15_breakChip 36 = .ok (.getfield 29, 3) := by decide +kernel
theorem dX15_breakChip_39 : decode cX15_breakChip 39 = .ok (.aload_n 0, 1) := by decide +kernel
theorem dX15_breakChip_40 : decode cX15_breakChip 40 = .ok (.getfield 26, 3) := by decide +kernel
theorem dX15_breakChip_43 : decode cX15_breakChip 43 = .ok (.iload_n 1, 1) := by decide +kernel
theorem dX15_breakChip_44 : decode cX15_breakChip 44 = .ok (.invokeinterface 143 2, 5) := by decide +kernel
theorem dX15_breakChip_49 : decode cX15_breakChip 49 = .ok (.checkcast 170, 3) := by decide +kernel
theorem dX15_breakChip_52 : decode cX15_breakChip 52 = .ok (.invokeinterface 124 2, 5) := by decide +kernel
theorem dX15_breakChip_57 : decode cX15_breakChip 57 = .ok (.pop, 1) := by decide +kernel
theorem dX15_breakChip_58 : decode cX15_breakChip 58 = .ok (.aload_n 0, 1) := by decide +kernel
theorem dX15_breakChip_59 : decode cX15_breakChip 59 = .ok (.getfield 29, 3) := by decide +kernel
theorem dX15_breakChip_62 : decode cX15_breakChip 62 = .ok (.invokeinterface 92 1, 5) := by decide +kernel
theorem dX15_breakChip_67 : decode cX15_breakChip 67 = .ok (.ireturn, 1) := by decide +kernel
theorem dX15_bridge_0 : decode cX15_bridge 0 = .ok (.aload_n 0, 1) := by decide +kernel
theorem dX15_bridge_1 : decode cX15_bridge 1 = .ok (.ldc_w 326, 3) := by decide +kernel
theorem dX15_bridge_4 : decode cX15_bridge 4 = .ok (.iload_n 1, 1) := by decide +kernel
theorem dX15_bridge_5 : decode cX15_bridge 5 = .ok (.invokevirtual 134, 3) := by decide +kernel
theorem dX15_bridge_8 : decode cX15_bridge 8 = .ok (.ifCond .ge 7, 3) := by decide +kernel
theorem dX15_bridge_11 : decode cX15_bridge 11 = .ok (.iconst 1, 1) := by decide +kernel
theorem dX15_bridge_12 : decode cX15_bridge 12 = .ok (.goto 66, 3) := by decide +kernel
theorem dX15_bridge_15 : decode cX15_bridge 15 = .ok (.aload_n 0, 1) := by decide +kernel
theorem dX15_bridge_16 : decode cX15_bridge 16 = .ok (.iload_n 2, 1) := by decide +kernel
theorem dX15_bridge_17 : decode cX15_bridge 17 = .ok (.invokevirtual 140, 3) := by decide +kernel
theorem dX15_bridge_20 : decode cX15_bridge 20 = .ok (.ifCond .eq 11, 3) := by decide +kernel
theorem dX15_bridge_23 : decode cX15_bridge 23 = .ok (.aload_n 0, 1) := by decide +kernel
theorem dX15_bridge_24 : decode cX15_bridge 24 = .ok (.iload_n 3, 1) := by decide +kernel
theorem dX15_bridge_25 : decode cX15_bridge 25 = .ok (.invokevirtual 140, 3) := by decide +kernel
theorem dX15_bridge_28 : decode cX15_bridge 28 = .ok (.ifCond .ne 7, 3) := by decide +kernel
theorem dX15_bridge_31 : decode cX15_bridge 31 = .ok (.iconst 2, 1) := by decide +kernel
theorem dX15_bridge_32 : decode cX15_bridge 32 = .ok (.goto 46, 3) := by decide +kernel
theorem dX15_bridge_35 : decode cX15_bridge 35 = .ok (.aload_n 0, 1) := by decide +kernel
theorem dX15_bridge_36 : decode cX15_bridge 36 = .ok (.getfield 102, 3) := by decide +kernel
theorem dX15_bridge_39 : decode cX15_bridge 39 = .ok (.ifCond .eq 21, 3) := by decide +kernel
theorem dX15_bridge_42 : decode cX15_bridge 42 = .ok (.aload_n 0, 1) := by decide +kernel
theorem dX15_bridge_43 : decode cX15_bridge 43 = .ok (.iload_n 2, 1) := by decide +kernel
theorem dX15_bridge_44 : decode cX15_bridge 44 = .ok (.iload_n 3, 1) := by decide +kernel
theorem dX15_bridge_45 : decode cX15_bridge 45 = .ok (.invokevirtual 322, 3) := by decide +kernel
theorem dX15_bridge_48 : decode cX15_bridge 48 = .ok (.ifCond .ne 12, 3) := by decide +kernel
theorem dX15_bridge_51 : decode cX15_bridge 51 = .ok (.aload_n 0, 1) := by decide +kernel
theorem dX15_bridge_52 : decode cX15_bridge 52 = .ok (.iload_n 3, 1) := by decide +kernel
theorem dX15_bridge_53 : decode cX15_bridge 53 = .ok (.iload_n 2, 1) := by decide +kernel
theorem dX15_bridge_54 : decode cX15_bridge 54 = .ok (.invokevirtual 322, 3) := by decide +kernel
theorem dX15_bridge_57 : decode cX15_bridge 57 = .ok (.ifCond .eq 7, 3) := by decide +kernel
theorem dX15_bridge_60 : decode cX15_bridge 60 = .ok (.iconst 3, 1) := by decide +kernel
theorem dX15_bridge_61 : decode cX15_bridge 61 = .ok (.goto 17, 3) := by decide +kernel
theorem dX15_bridge_64 : decode cX15_bridge 64 = .ok (.aload_n 0, 1) := by decide +kernel
theorem dX15_bridge_65 : decode cX15_bridge 65 = .ok (.getfield 328, 3) := by decide +kernel
theorem dX15_bridge_68 : decode cX15_bridge 68 = .ok (.bipush 8, 2) := by decide +kernel
theorem dX15_bridge_70 : decode cX15_bridge 70 = .ok (.if_icmp .ne 7, 3) := by decide +kernel
theorem dX15_bridge_73 : decode cX15_bridge 73 = .ok (.iconst 4, 1) := by decide +kernel
theorem dX15_bridge_74 : decode cX15_bridge 74 = .ok (.goto 4, 3) := by decide +kernel
theorem dX15_bridge_77 : decode cX15_bridge 77 = .ok (.iconst 0, 1) := by decide +kernel
theorem dX15_bridge_78 : decode cX15_bridge 78 = .ok (.invokevirtual 106, 3) := by decide +kernel
theorem dX15_bridge_81 : decode cX15_bridge 81 = .ok (.ifCond .eq 5, 3) := by decide +kernel
theorem dX15_bridge_84 : decode cX15_bridge 84 = .ok (.iconst 0, 1) := by decide +kernel
theorem dX15_bridge_85 : decode cX15_bridge 85 = .ok (.ireturn, 1) := by decide +kernel
theorem dX15_bridge_86 : decode cX15_bridge 86 = .ok (.aload_n 0, 1) := by decide +kernel
theorem dX15_bridge_87 : decode cX15_bridge 87 = .ok (.dup, 1) := by decide +kernel
theorem dX15_bridge_88 : decode cX15_bridge 88 = .ok (.getfield 328, 3) := by decide +kernel
theorem dX15_bridge_91 : decode cX15_bridge 91 = .ok (.iconst 1, 1) := by decide +kernel
theorem dX15_bridge_92 : decode cX15_bridge 92 = .ok (.iadd, 1) := by decide +kernel
theorem dX15_bridge_93 : decode cX15_bridge 93 = .ok (.putfield 328, 3) := by decide +kernel
theorem dX15_bridge_96 : decode cX15_bridge 96 = .ok (.aload_n 0, 1) := by decide +kernel
theorem dX15_bridge_97 : decode cX15_bridge 97 = .ok (.getfield 26, 3) := by decide +kernel
theorem dX15_bridge_100 : decode cX15_bridge 100 = .ok (.new 170, 3) := by decide +kernel
theorem dX15_bridge_103 : decode cX15_bridge 103 = .ok (.dup, 1) := by decide +kernel
theorem dX15_bridge_104 : decode cX15_bridge 104 = .ok (.iload_n 1, 1) := by decide +kernel
theorem dX15_bridge_105 : decode cX15_bridge 105 = .ok (.iload_n 2, 1) := by decide +kernel
theorem dX15_bridge_106 : decode cX15_bridge 106 = .ok (.iload_n 3, 1) := by decide +kernel
theorem dX15_bridge_107 : decode cX15_bridge 107 = .ok (.iconst 0, 1) := by decide +kernel
theorem dX15_bridge_108 : decode cX15_bridge 108 = .ok (.invokespecial 172, 3) := by decide +kernel
theorem dX15_bridge_111 : decode cX15_bridge 111 = .ok (.invokeinterface 124 2, 5) := by decide +kernel
theorem dX15_bridge_116 : decode cX15_bridge 116 = .ok (.pop, 1) := by decide +kernel
theorem dX15_bridge_117 : decode cX15_bridge 117 = .ok (.aload_n 0, 1) := by decide +kernel
theorem dX15_bridge_118 : decode cX15_bridge 118 = .ok (.getfield 26, 3) := by decide +kernel
theorem dX15_bridge_121 : decode cX15_bridge 121 = .ok (.invokeinterface 92 1, 5) := by decide +kernel
theorem dX15_bridge_126 : decode cX15_bridge 126 = .ok (.iconst 1, 1) := by decide +kernel
theorem dX15_bridge_127 : decode cX15_bridge 127 = .ok (.isub, 1) := by decide +kernel
theorem dX15_bridge_128 : decode cX15_bridge 128 = .ok (.ireturn, 1) := by decide +kernel
theorem dX15_canClose_0 : decode cX15_canClose 0 = .ok (.iconst 1, 1) := by decide +kernel
theorem dX15_canClose_1 : decode cX15_canClose 1 = .ok (.istore_n 1, 1) := by decide +kernel
theorem dX15_canClose_2 : decode cX15_canClose 2 = .ok (.iconst 0, 1) := by decide +kernel
theorem dX15_canClose_3 : decode cX15_canClose 3 = .ok (.istore_n 2, 1) := by decide +kernel
theorem dX15_canClose_4 : decode cX15_canClose 4 = .ok (.aload_n 0, 1) := by decide +kernel
theorem dX15_canClose_5 : decode cX15_canClose 5 = .ok (.getfield 16, 3) := by decide +kernel
theorem dX15_canClose_8 : decode cX15_canClose 8 = .ok (.invokeinterface 156 1, 5) := by decide +kernel
theorem dX15_canClose_13 : decode cX15_canClose 13 = .ok (.astore_n 3, 1) := by decide +kernel
theorem dX15_canClose_14 : decode cX15_canClose 14 = .ok (.aload_n 3, 1) := by decide +kernel
theorem dX15_canClose_15 : decode cX15_canClose 15 = .ok (.invokeinterface 160 1, 5) := by decide +kernel
theorem dX15_canClose_20 : decode cX15_canClose 20 = .ok (.ifCond .eq 69, 3) := by decide +kernel
theorem dX15_canClose_23 : decode cX15_canClose 23 = .ok (.aload_n 3, 1) := by decide +kernel
theorem dX15_canClose_24 : decode cX15_canClose 24 = .ok (.invokeinterface 166 1, 5) := by decide +kernel
theorem dX15_canClose_29 : decode cX15_canClose 29 = .ok (.checkcast 110, 3) := by decide +kernel
theorem dX15_canClose_32 : decode cX15_canClose 32 = .ok (.astore 4, 2) := by decide +kernel
theorem dX15_canClose_34 : decode cX15_canClose 34 = .ok (.iload_n 1, 1) := by decide +kernel
theorem dX15_canClose_35 : decode cX15_canClose 35 = .ok (.aload 4, 2) := by decide +kernel
theorem dX15_canClose_37 : decode cX15_canClose 37 = .ok (.getfield 147, 3) := by decide +kernel
theorem dX15_canClose_40 : decode cX15_canClose 40 = .ok (.bipush 102, 2) := by decide +kernel
theorem dX15_canClose_42 : decode cX15_canClose 42 = .ok (.if_icmp .ne 12, 3) := by decide +kernel
theorem dX15_canClose_45 : decode cX15_canClose 45 = .ok (.aload 4, 2) := by decide +kernel
theorem dX15_canClose_47 : decode cX15_canClose 47 = .ok (.getfield 150, 3) := by decide +kernel
theorem dX15_canClose_50 : decode cX15_canClose 50 = .ok (.iconst (-1), 1) := by decide +kernel
theorem dX15_canClose_51 : decode cX15_canClose 51 = .ok (.if_icmp .eq 7, 3) := by decide +kernel
theorem dX15_canClose_54 : decode cX15_canClose 54 = .ok (.iconst 1, 1) := by decide +kernel
theorem dX15_canClose_55 : decode cX15_canClose 55 = .ok (.goto 4, 3) := by decide +kernel
theorem dX15_canClose_58 : decode cX15_canClose 58 = .ok (.iconst 0, 1) := by decide +kernel
theorem dX15_canClose_59 : decode cX15_canClose 59 = .ok (.iand, 1) := by decide +kernel
theorem dX15_canClose_60 : decode cX15_canClose 60 = .ok (.istore_n 1, 1) := by decide +kernel
theorem dX15_canClose_61 : decode cX15_canClose 61 = .ok (.iload_n 2, 1) := by decide +kernel
theorem dX15_canClose_62 : decode cX15_canClose 62 = .ok (.aload 4, 2) := by decide +kernel
theorem dX15_canClose_64 : decode cX15_canClose 64 = .ok (.getfield 153, 3) := by decide +kernel
theorem dX15_canClose_67 : decode cX15_canClose 67 = .ok (.ifCond .ne 12, 3) := by decide +kernel
theorem dX15_canClose_70 : decode cX15_canClose 70 = .ok (.aload 4, 2) := by decide +kernel
theorem dX15_canClose_72 : decode cX15_canClose 72 = .ok (.getfield 150, 3) := by decide +kernel
theorem dX15_canClose_75 : decode cX15_canClose 75 = .ok (.iconst (-1), 1) := by decide +kernel
theorem dX15_canClose_76 : decode cX15_canClose 76 = .ok (.if_icmp .eq 7, 3) := by decide +kernel
theorem dX15_canClose_79 : decode cX15_canClose 79 = .ok (.iconst 1, 1) := by decide +kernel
theorem dX15_canClose_80 : decode cX15_canClose 80 = .ok (.goto 4, 3) := by decide +kernel
theorem dX15_canClose_83 : decode cX15_canClose 83 = .ok (.iconst 0, 1) := by decide +kernel
theorem dX15_canClose_84 : decode cX15_canClose 84 = .ok (.ior, 1) := by decide +kernel
theorem dX15_canClose_85 : decode cX15_canClose 85 = .ok (.istore_n 2, 1) := by decide +kernel
theorem dX15_canClose_86 : decode cX15_canClose 86 = .ok (.goto (-72), 3) := by decide +kernel
theorem dX15_canClose_89 : decode cX15_canClose 89 = .ok (.iload_n 1, 1) := by decide +kernel
theorem dX15_canClose_90 : decode cX15_canClose 90 = .ok (.ifCond .eq 11, 3) := by decide +kernel
theorem dX15_canClose_93 : decode cX15_canClose 93 = .ok (.iload_n 2, 1) := by decide +kernel
theorem dX15_canClose_94 : decode cX15_canClose 94 = .ok (.ifCond .eq 7, 3) := by decide +kernel
theorem dX15_canClose_97 : decode cX15_canClose 97 = .ok (.iconst 1, 1) := by decide +kernel
theorem dX15_canClose_98 : decode cX15_canClose 98 = .ok (.goto 4, 3) := by decide +kernel
theorem dX15_canClose_101 : decode cX15_canClose 101 = .ok (.iconst 0, 1) := by decide +kernel
theorem dX15_canClose_102 : decode cX15_canClose 102 = .ok (.ireturn, 1) := by decide +kernel
theorem dX15_candidate_0 : decode cX15_candidate 0 = .ok (.aload_n 0, 1) := by decide +kernel
theorem dX15_candidate_1 : decode cX15_candidate 1 = .ok (.invokevirtual 421, 3) := by decide +kernel
theorem dX15_candidate_4 : decode cX15_candidate 4 = .ok (.astore_n 2, 1) := by decide +kernel
theorem dX15_candidate_5 : decode cX15_candidate 5 = .ok (.aload_n 0, 1) := by decide +kernel
theorem dX15_candidate_6 : decode cX15_candidate 6 = .ok (.iload_n 1, 1) := by decide +kernel
theorem dX15_candidate_7 : decode cX15_candidate 7 = .ok (.iconst 0, 1) := by decide +kernel
theorem dX15_candidate_8 : decode cX15_candidate 8 = .ok (.aload_n 2, 1) := by decide +kernel
theorem dX15_candidate_9 : decode cX15_candidate 9 = .ok (.invokeinterface 92 1, 5) := by decide +kernel
theorem dX15_candidate_14 : decode cX15_candidate 14 = .ok (.iconst 1, 1) := by decide +kernel
theorem dX15_candidate_15 : decode cX15_candidate 15 = .ok (.isub, 1) := by decide +kernel
theorem dX15_candidate_16 : decode cX15_candidate 16 = .ok (.invokestatic 98, 3) := by decide +kernel
theorem dX15_candidate_19 : decode cX15_candidate 19 = .ok (.ifCond .eq 7, 3) := by decide +kernel
theorem dX15_candidate_22 : decode cX15_candidate 22 = .ok (.iconst 0, 1) := by decide +kernel
theorem dX15_candidate_23 : decode cX15_candidate 23 = .ok (.goto 4, 3) := by decide +kernel
theorem dX15_candidate_26 : decode cX15_candidate 26 = .ok (.iconst 1, 1) := by decide +kernel
theorem dX15_candidate_27 : decode cX15_candidate 27 = .ok (.invokevirtual 106, 3) := by decide +kernel
theorem dX15_candidate_30 : decode cX15_candidate 30 = .ok (.ifCond .eq 7, 3) := by decide +kernel
theorem dX15_candidate_33 : decode cX15_candidate 33 = .ok (.iconst 0, 1) := by decide +kernel
theorem dX15_candidate_34 : decode cX15_candidate 34 = .ok (.goto 16, 3) := by decide +kernel
theorem dX15_candidate_37 : decode cX15_candidate 37 = .ok (.aload_n 2, 1) := by decide +kernel
theorem dX15_candidate_38 : decode cX15_candidate 38 = .ok (.iload_n 1, 1) := by decide +kernel
theorem dX15_candidate_39 : decode cX15_candidate 39 = .ok (.invokeinterface 143 2, 5) := by decide +kernel
theorem dX15_candidate_44 : decode cX15_candidate 44 = .ok (.checkcast 119, 3) := by decide +kernel
theorem dX15_candidate_47 : decode cX15_candidate 47 = .ok (.invokevirtual 194, 3) := by decide +kernel
theorem dX15_candidate_50 : decode cX15_candidate 50 = .ok (.ireturn, 1) := by decide +kernel
theorem dX15_candidates_0 : decode cX15_candidates 0 = .ok (.new 13, 3) := by decide +kernel
theorem dX15_candidates_3 : decode cX15_candidates 3 = .ok (.dup, 1) := by decide +kernel
theorem dX15_candidates_4 : decode cX15_candidates 4 = .ok (.invokespecial 15, 3) := by decide +kernel
theorem dX15_candidates_7 : decode cX15_candidates 7 = .ok (.astore_n 1, 1) := by decide +kernel
theorem dX15_candidates_8 : decode cX15_candidates 8 = .ok (.aload_n 0, 1) := by decide +kernel
theorem dX15_candidates_9 : decode cX15_candidates 9 = .ok (.invokevirtual 318, 3) := by decide +kernel
theorem dX15_candidates_12 : decode cX15_candidates 12 = .ok (.invokeinterface 156 1, 5) := by decide +kernel
theorem dX15_candidates_17 : decode cX15_candidates 17 = .ok (.astore_n 2, 1) := by decide +kernel
theorem dX15_candidates_18 : decode cX15_candidates 18 = .ok (.aload_n 2, 1) := by decide +kernel
theorem dX15_candidates_19 : decode cX15_candidates 19 = .ok (.invokeinterface 160 1, 5) := by decide +kernel
theorem dX15_candidates_24 : decode cX15_candidates 24 = .ok (.ifCond .eq 89, 3) := by decide +kernel
theorem dX15_candidates_27 : decode cX15_candidates 27 = .ok (.aload_n 2, 1) := by decide +kernel
theorem dX15_candidates_28 : decode cX15_candidates 28 = .ok (.invokeinterface 166 1, 5) := by decide +kernel
theorem dX15_candidates_33 : decode cX15_candidates 33 = .ok (.checkcast 119, 3) := by decide +kernel
theorem dX15_candidates_36 : decode cX15_candidates 36 = .ok (.invokevirtual 194, 3) := by decide +kernel
theorem dX15_candidates_39 : decode cX15_candidates 39 = .ok (.istore_n 3, 1) := by decide +kernel
theorem dX15_candidates_40 : decode cX15_candidates 40 = .ok (.aload_n 0, 1) := by decide +kernel
theorem dX15_candidates_41 : decode cX15_candidates 41 = .ok (.iload_n 3, 1) := by decide +kernel
theorem dX15_candidates_42 : decode cX15_candidates 42 = .ok (.invokevirtual 412, 3) := by decide +kernel
theorem dX15_candidates_45 : decode cX15_candidates 45 = .ok (.ifCond .ne 6, 3) := by decide +kernel
theorem dX15_candidates_48 : decode cX15_candidates 48 = .ok (.goto (-30), 3) := by decide +kernel
theorem dX15_candidates_51 : decode cX15_candidates 51 = .ok (.aload_n 1, 1) := by decide +kernel
theorem dX15_candidates_52 : decode cX15_candidates 52 = .ok (.invokeinterface 92 1, 5) := by decide +kernel
theorem dX15_candidates_57 : decode cX15_candidates 57 = .ok (.istore 4, 2) := by decide +kernel
theorem dX15_candidates_59 : decode cX15_candidates 59 = .ok (.iload 4, 2) := by decide +kernel
theorem dX15_candidates_61 : decode cX15_candidates 61 = .ok (.ifCond .le 37, 3) := by decide +kernel
theorem dX15_candidates_64 : decode cX15_candidates 64 = .ok (.aload_n 0, 1) := by decide +kernel
theorem dX15_candidates_65 : decode cX15_candidates 65 = .ok (.aload_n 1, 1) := by decide +kernel
theorem dX15_candidates_66 : decode cX15_candidates 66 = .ok (.iload 4, 2) := by decide +kernel
theorem dX15_candidates_68 : decode cX15_candidates 68 = .ok (.iconst 1, 1) := by decide +kernel
theorem dX15_candidates_69 : decode cX15_candidates 69 = .ok (.isub, 1) := by decide +kernel
theorem dX15_candidates_70 : decode cX15_candidates 70 = .ok (.invokeinterface 143 2, 5) := by decide +kernel
theorem dX15_candidates_75 : decode cX15_candidates 75 = .ok (.checkcast 119, 3) := by decide +kernel
theorem dX15_candidates_78 : decode cX15_candidates 78 = .ok (.invokevirtual 194, 3) := by decide +kernel
theorem dX15_candidates_81 : decode cX15_candidates 81 = .ok (.invokevirtual 415, 3) := by decide +kernel
theorem dX15_candidates_84 : decode cX15_candidates 84 = .ok (.aload_n 0, 1) := by decide +kernel
theorem dX15_candidates_85 : decode cX15_candidates 85 = .ok (.iload_n 3, 1) := by decide +kernel
theorem dX15_candidates_86 : decode cX15_candidates 86 = .ok (.invokevirtual 415, 3) := by decide +kernel
theorem dX15_candidates_89 : decode cX15_candidates 89 = .ok (.if_icmp .le 9, 3) := by decide +kernel
theorem dX15_candidates_92 : decode cX15_candidates 92 = .ok (.iinc 4 (-1), 3) := by decide +kernel
theorem dX15_candidates_95 : decode cX15_candidates 95 = .ok (.goto (-36), 3) := by decide +kernel
theorem dX15_candidates_98 : decode cX15_candidates 98 = .ok (.aload_n 1, 1) := by decide +kernel
theorem dX15_candidates_99 : decode cX15_candidates 99 = .ok (.iload 4, 2) := by decide +kernel
theorem dX15_candidates_101 : decode cX15_candidates 101 = .ok (.iload_n 3, 1) := by decide +kernel
theorem dX15_candidates_102 : decode cX15_candidates 102 = .ok (.invokestatic 118, 3) := by decide +kernel
theorem dX15_candidates_105 : decode cX15_candidates 105 = .ok (.invokeinterface 418 3, 5) := by decide +kernel
theorem dX15_candidates_110 : decode cX15_candidates 110 = .ok (.goto (-92), 3) := by decide +kernel
theorem dX15_candidates_113 : decode cX15_candidates 113 = .ok (.aload_n 1, 1) := by decide +kernel
theorem dX15_candidates_114 : decode cX15_candidates 114 = .ok (.areturn, 1) := by decide +kernel
theorem dX15_cell_0 : decode cX15_cell 0 = .ok (.aload_n 0, 1) := by decide +kernel
theorem dX15_cell_1 : decode cX15_cell 1 = .ok (.bipush 102, 2) := by decide +kernel
theorem dX15_cell_3 : decode cX15_cell 3 = .ok (.invokevirtual 128, 3) := by decide +kernel
theorem dX15_cell_6 : decode cX15_cell 6 = .ok (.ireturn, 1) := by decide +kernel
theorem dX15_chance_0 : decode cX15_chance 0 = .ok (.aload_n 0, 1) := by decide +kernel
theorem dX15_chance_1 : decode cX15_chance 1 = .ok (.iload_n 1, 1) := by decide +kernel
theorem dX15_chance_2 : decode cX15_chance 2 = .ok (.iconst 0, 1) := by decide +kernel
theorem dX15_chance_3 : decode cX15_chance 3 = .ok (.ldc_w 392, 3) := by decide +kernel
theorem dX15_chance_6 : decode cX15_chance 6 = .ok (.invokestatic 98, 3) := by decide +kernel
theorem dX15_chance_9 : decode cX15_chance 9 = .ok (.ifCond .eq 14, 3) := by decide +kernel
theorem dX15_chance_12 : decode cX15_chance 12 = .ok (.iload_n 2, 1) := by decide +kernel
theorem dX15_chance_13 : decode cX15_chance 13 = .ok (.iconst 1, 1) := by decide +kernel
theorem dX15_chance_14 : decode cX15_chance 14 = .ok (.sipush 200, 3) := by decide +kernel
theorem dX15_chance_17 : decode cX15_chance 17 = .ok (.invokestatic 98, 3) := by decide +kernel
theorem dX15_chance_20 : decode cX15_chance 20 = .ok (.ifCond .ne 7, 3) := by decide +kernel
theorem dX15_chance_23 : decode cX15_chance 23 = .ok (.iconst 1, 1) := by decide +kernel
theorem dX15_chance_24 : decode cX15_chance 24 = .ok (.goto 15, 3) := by decide +kernel
theorem dX15_chance_27 : decode cX15_chance 27 = .ok (.aload_n 0, 1) := by decide +kernel
theorem dX15_chance_28 : decode cX15_chance 28 = .ok (.getfield 102, 3) := by decide +kernel
theorem dX15_chance_31 : decode cX15_chance 31 = .ok (.ifCond .ne 7, 3) := by decide +kernel
theorem dX15_chance_34 : decode cX15_chance 34 = .ok (.iconst 2, 1) := by decide +kernel
theorem dX15_chance_35 : decode cX15_chance 35 = .ok (.goto 4, 3) := by decide +kernel
theorem dX15_chance_38 : decode cX15_chance 38 = .ok (.iconst 0, 1) := by decide +kernel
theorem dX15_chance_39 : decode cX15_chance 39 = .ok (.invokevirtual 106, 3) := by decide +kernel
theorem dX15_chance_42 : decode cX15_chance 42 = .ok (.ifCond .eq 5, 3) := by decide +kernel
theorem dX15_chance_45 : decode cX15_chance 45 = .ok (.iconst 0, 1) := by decide +kernel
theorem dX15_chance_46 : decode cX15_chance 46 = .ok (.ireturn, 1) := by decide +kernel
theorem dX15_chance_47 : decode cX15_chance 47 = .ok (.aload_n 0, 1) := by decide +kernel
theorem dX15_chance_48 : decode cX15_chance 48 = .ok (.invokevirtual 318, 3) := by decide +kernel
theorem dX15_chance_51 : decode cX15_chance 51 = .ok (.astore_n 3, 1) := by decide +kernel
theorem dX15_chance_52 : decode cX15_chance 52 = .ok (.aload_n 3, 1) := by decide +kernel
theorem dX15_chance_53 : decode cX15_chance 53 = .ok (.invokeinterface 92 1, 5) := by decide +kernel
theorem dX15_chance_58 : decode cX15_chance 58 = .ok (.istore 4, 2) := by decide +kernel
theorem dX15_chance_60 : decode cX15_chance 60 = .ok (.iload_n 1, 1) := by decide +kernel
theorem dX15_chance_61 : decode cX15_chance 61 = .ok (.iconst 1, 1) := by decide +kernel
theorem dX15_chance_62 : decode cX15_chance 62 = .ok (.aload_n 0, 1) := by decide +kernel
theorem dX15_chance_63 : decode cX15_chance 63 = .ok (.getfield 53, 3) := by decide +kernel
theorem dX15_chance_66 : decode cX15_chance 66 = .ok (.ishl, 1) := by decide +kernel
theorem dX15_chance_67 : decode cX15_chance 67 = .ok (.iconst 1, 1) := by decide +kernel
theorem dX15_chance_68 : decode cX15_chance 68 = .ok (.isub, 1) := by decide +kernel
theorem dX15_chance_69 : decode cX15_chance 69 = .ok (.iand, 1) := by decide +kernel
theorem dX15_chance_70 : decode cX15_chance 70 = .ok (.istore 5, 2) := by decide +kernel
theorem dX15_chance_72 : decode cX15_chance 72 = .ok (.aload_n 0, 1) := by decide +kernel
theorem dX15_chance_73 : decode cX15_chance 73 = .ok (.getfield 20, 3) := by decide +kernel
theorem dX15_chance_76 : decode cX15_chance 76 = .ok (.invokeinterface 92 1, 5) := by decide +kernel
theorem dX15_chance_81 : decode cX15_chance 81 = .ok (.newarray .int, 2) := by decide +kernel
theorem dX15_chance_83 : decode cX15_chance 83 = .ok (.astore 6, 2) := by decide +kernel
theorem dX15_chance_85 : decode cX15_chance 85 = .ok (.iconst 0, 1) := by decide +kernel
theorem dX15_chance_86 : decode cX15_chance 86 = .ok (.istore 7, 2) := by decide +kernel
theorem dX15_chance_88 : decode cX15_chance 88 = .ok (.iload 7, 2) := by decide +kernel
theorem dX15_chance_90 : decode cX15_chance 90 = .ok (.iload_n 2, 1) := by decide +kernel
theorem dX15_chance_91 : decode cX15_chance 91 = .ok (.if_icmp .ge 84, 3) := by decide +kernel
theorem dX15_chance_94 : decode cX15_chance 94 = .ok (.aload_n 0, 1) := by decide +kernel
theorem dX15_chance_95 : decode cX15_chance 95 = .ok (.iload 5, 2) := by decide +kernel
theorem dX15_chance_97 : decode cX15_chance 97 = .ok (.aload 6, 2) := by decide +kernel
theorem dX15_chance_99 : decode cX15_chance 99 = .ok (.invokevirtual 385, 3) := by decide +kernel
theorem dX15_chance_102 : decode cX15_chance 102 = .ok (.istore 5, 2) := by decide +kernel
theorem dX15_chance_104 : decode cX15_chance 104 = .ok (.aload_n 3, 1) := by decide +kernel
theorem dX15_chance_105 : decode cX15_chance 105 = .ok (.invokeinterface 92 1, 5) := by decide +kernel
theorem dX15_chance_110 : decode cX15_chance 110 = .ok (.iconst 1, 1) := by decide +kernel
theorem dX15_chance_111 : decode cX15_chance 111 = .ok (.isub, 1) := by decide +kernel
theorem dX15_chance_112 : decode cX15_chance 112 = .ok (.istore 8, 2) := by decide +kernel
theorem dX15_chance_114 : decode cX15_chance 114 = .ok (.iload 8, 2) := by decide +kernel
theorem dX15_chance_116 : decode cX15_chance 116 = .ok (.ifCond .lt 53, 3) := by decide +kernel
theorem dX15_chance_119 : decode cX15_chance 119 = .ok (.aload_n 0, 1) := by decide +kernel
theorem dX15_chance_120 : decode cX15_chance 120 = .ok (.aload 6, 2) := by decide +kernel
theorem dX15_chance_122 : decode cX15_chance 122 = .ok (.aload_n 0, 1) := by decide +kernel
theorem dX15_chance_123 : decode cX15_chance 123 = .ok (.getfield 26, 3) := by decide +kernel
theorem dX15_chance_126 : decode cX15_chance 126 = .ok (.aload_n 3, 1) := by decide +kernel
theorem dX15_chance_127 : decode cX15_chance 127 = .ok (.iload 8, 2) := by decide +kernel
theorem dX15_chance_129 : decode cX15_chance 129 = .ok (.invokeinterface 143 2, 5) := by decide +kernel
theorem dX15_chance_134 : decode cX15_chance 134 = .ok (.checkcast 119, 3) := by decide +kernel
theorem dX15_chance_137 : decode cX15_chance 137 = .ok (.invokevirtual 194, 3) := by decide +kernel
theorem dX15_chance_140 : decode cX15_chance 140 = .ok (.invokeinterface 143 2, 5) := by decide +kernel
theorem dX15_chance_145 : decode cX15_chance 145 = .ok (.checkcast 170, 3) := by decide +kernel
theorem dX15_chance_148 : decode cX15_chance 148 = .ok (.invokevirtual 275, 3) := by decide +kernel
theorem dX15_chance_151 : decode cX15_chance 151 = .ok (.ifCond .eq 12, 3) := by decide +kernel
theorem dX15_chance_154 : decode cX15_chance 154 = .ok (.aload_n 3, 1) := by decide +kernel
theorem dX15_chance_155 : decode cX15_chance 155 = .ok (.iload 8, 2) := by decide +kernel
theorem dX15_chance_157 : decode cX15_chance 157 = .ok (.invokeinterface 367 2, 5) := by decide +kernel
theorem dX15_chance_162 : decode cX15_chance 162 = .ok (.pop, 1) := by decide +kernel
theorem dX15_chance_163 : decode cX15_chance 163 = .ok (.iinc 8 (-1), 3) := by decide +kernel
theorem dX15_chance_166 : decode cX15_chance 166 = .ok (.goto (-52), 3) := by decide +kernel
theorem dX15_chance_169 : decode cX15_chance 169 = .ok (.iinc 7 1, 3) := by decide +kernel
theorem dX15_chance_172 : decode cX15_chance 172 = .ok (.goto (-84), 3) := by decide +kernel
theorem dX15_chance_175 : decode cX15_chance 175 = .ok (.iload 4, 2) := by decide +kernel
theorem dX15_chance_177 : decode cX15_chance 177 = .ok (.aload_n 3, 1) := by decide +kernel
theorem dX15_chance_178 : decode cX15_chance 178 = .ok (.invokeinterface 92 1, 5) := by decide +kernel
theorem dX15_chance_183 : decode cX15_chance 183 = .ok (.isub, 1) := by decide +kernel
theorem dX15_chance_184 : decode cX15_chance 184 = .ok (.ireturn, 1) := by decide +kernel
theorem dX15_classes_0 : decode cX15_classes 0 = .ok (.aload_n 0, 1) := by decide +kernel
theorem dX15_classes_1 : decode cX15_classes 1 = .ok (.iconst 0, 1) := by decide +kernel
theorem dX15_classes_2 : decode cX15_classes 2 = .ok (.putfield 1, 3) := by decide +kernel
theorem dX15_classes_5 : decode cX15_classes 5 = .ok (.aload_n 0, 1) := by decide +kernel
theorem dX15_classes_6 : decode cX15_classes 6 = .ok (.invokevirtual 318, 3) := by decide +kernel
theorem dX15_classes_9 : decode cX15_classes 9 = .ok (.invokeinterface 92 1, 5) := by decide +kernel
theorem dX15_classes_14 : decode cX15_classes 14 = .ok (.ireturn, 1) := by decide +kernel
theorem dX15_close_0 : decode cX15_close 0 = .ok (.aload_n 0, 1) := by decide +kernel
theorem dX15_close_1 : decode cX15_close 1 = .ok (.aload_n 0, 1) := by decide +kernel
theorem dX15_close_2 : decode cX15_close 2 = .ok (.getfield 102, 3) := by decide +kernel
theorem dX15_close_5 : decode cX15_close 5 = .ok (.ifCond .ne 10, 3) := by decide +kernel
theorem dX15_close_8 : decode cX15_close 8 = .ok (.aload_n 0, 1) := by decide +kernel
theorem dX15_close_9 : decode cX15_close 9 = .ok (.invokevirtual 175, 3) := by decide +kernel
theorem dX15_close_12 : decode cX15_close 12 = .ok (.ifCond .ne 7, 3) := by decide +kernel
theorem dX15_close_15 : decode cX15_close 15 = .ok (.iconst 1, 1) := by decide +kernel
theorem dX15_close_16 : decode cX15_close 16 = .ok (.goto 4, 3) := by decide +kernel
theorem dX15_close_19 : decode cX15_close 19 = .ok (.iconst 0, 1) := by decide +kernel
theorem dX15_close_20 : decode cX15_close 20 = .ok (.invokevirtual 106, 3) := by decide +kernel
theorem dX15_close_23 : decode cX15_close 23 = .ok (.ifCond .eq 5, 3) := by decide +kernel
theorem dX15_close_26 : decode cX15_close 26 = .ok (.iconst 0, 1) := by decide +kernel
theorem dX15_close_27 : decode cX15_close 27 = .ok (.ireturn, 1) := by decide +kernel
theorem dX15_close_28 : decode cX15_close 28 = .ok (.aload_n 0, 1) := by decide +kernel
theorem dX15_close_29 : decode cX15_close 29 = .ok (.iconst 1, 1) := by decide +kernel
theorem dX15_close_30 : decode cX15_close 30 = .ok (.putfield 102, 3) := by decide +kernel
theorem dX15_close_33 : decode cX15_close 33 = .ok (.aload_n 0, 1) := by decide +kernel
theorem dX15_close_34 : decode cX15_close 34 = .ok (.getfield 16, 3) := by decide +kernel
theorem dX15_close_37 : decode cX15_close 37 = .ok (.invokeinterface 156 1, 5) := by decide +kernel
theorem dX15_close_42 : decode cX15_close 42 = .ok (.astore_n 1, 1) := by decide +kernel
theorem dX15_close_43 : decode cX15_close 43 = .ok (.aload_n 1, 1) := by decide +kernel
theorem dX15_close_44 : decode cX15_close 44 = .ok (.invokeinterface 160 1, 5) := by decide +kernel
theorem dX15_close_49 : decode cX15_close 49 = .ok (.ifCond .eq 124, 3) := by decide +kernel
theorem dX15_close_52 : decode cX15_close 52 = .ok (.aload_n 1, 1) := by decide +kernel
theorem dX15_close_53 : decode cX15_close 53 = .ok (.invokeinterface 166 1, 5) := by decide +kernel
theorem dX15_close_58 : decode cX15_close 58 = .ok (.checkcast 110, 3) := by decide +kernel
theorem dX15_close_61 : decode cX15_close 61 = .ok (.astore_n 2, 1) := by decide +kernel
theorem dX15_close_62 : decode cX15_close 62 = .ok (.aload_n 2, 1) := by decide +kernel
theorem dX15_close_63 : decode cX15_close 63 = .ok (.getfield 178, 3) := by decide +kernel
theorem dX15_close_66 : decode cX15_close 66 = .ok (.astore_n 3, 1) := by decide +kernel
theorem dX15_close_67 : decode cX15_close 67 = .ok (.aload_n 3, 1) := by decide +kernel
theorem dX15_close_68 : decode cX15_close 68 = .ok (.arraylength, 1) := by decide +kernel
theorem dX15_close_69 : decode cX15_close 69 = .ok (.istore 4, 2) := by decide +kernel
theorem dX15_close_71 : decode cX15_close 71 = .ok (.iconst 0, 1) := by decide +kernel
theorem dX15_close_72 : decode cX15_close 72 = .ok (.istore 5, 2) := by decide +kernel
theorem dX15_close_74 : decode cX15_close 74 = .ok (.iload 5, 2) := by decide +kernel
theorem dX15_close_76 : decode cX15_close 76 = .ok (.iload 4, 2) := by decide +kernel
theorem dX15_close_78 : decode cX15_close 78 = .ok (.if_icmp .ge 38, 3) := by decide +kernel
theorem dX15_close_81 : decode cX15_close 81 = .ok (.aload_n 3, 1) := by decide +kernel
theorem dX15_close_82 : decode cX15_close 82 = .ok (.iload 5, 2) := by decide +kernel
theorem dX15_close_84 : decode cX15_close 84 = .ok (.iaload, 1) := by decide +kernel
theorem dX15_close_85 : decode cX15_close 85 = .ok (.istore 6, 2) := by decide +kernel
theorem dX15_close_87 : decode cX15_close 87 = .ok (.aload_n 0, 1) := by decide +kernel
theorem dX15_close_88 : decode cX15_close 88 = .ok (.getfield 16, 3) := by decide +kernel
theorem dX15_close_91 : decode cX15_close 91 = .ok (.iload 6, 2) := by decide +kernel
theorem dX15_close_93 : decode cX15_close 93 = .ok (.invokeinterface 143 2, 5) := by decide +kernel
theorem dX15_close_98 : decode cX15_close 98 = .ok (.checkcast 110, 3) := by decide +kernel
theorem dX15_close_101 : decode cX15_close 101 = .ok (.dup, 1) := by decide +kernel
theorem dX15_close_102 : decode cX15_close 102 = .ok (.getfield 181, 3) := by decide +kernel
theorem dX15_close_105 : decode cX15_close 105 = .ok (.iconst 1, 1) := by decide +kernel
theorem dX15_close_106 : decode cX15_close 106 = .ok (.iadd, 1) := by decide +kernel
theorem dX15_close_107 : decode cX15_close 107 = .ok (.putfield 181, 3) := by decide +kernel
theorem dX15_close_110 : decode cX15_close 110 = .ok (.iinc 5 1, 3) := by decide +kernel
theorem dX15_close_113 : decode cX15_close 113 = .ok (.goto (-39), 3) := by decide +kernel
theorem dX15_close_116 : decode cX15_close 116 = .ok (.aload_n 2, 1) := by decide +kernel
theorem dX15_close_117 : decode cX15_close 117 = .ok (.getfield 150, 3) := by decide +kernel
theorem dX15_close_120 : decode cX15_close 120 = .ok (.iconst (-1), 1) := by decide +kernel
theorem dX15_close_121 : decode cX15_close 121 = .ok (.if_icmp .eq 28, 3) := by decide +kernel
theorem dX15_close_124 : decode cX15_close 124 = .ok (.aload_n 0, 1) := by decide +kernel
theorem dX15_close_125 : decode cX15_close 125 = .ok (.getfield 16, 3) := by decide +kernel
theorem dX15_close_128 : decode cX15_close 128 = .ok (.aload_n 2, 1) := by decide +kernel
theorem dX15_close_129 : decode cX15_close 129 = .ok (.getfield 150, 3) := by decide +kernel
theorem dX15_close_132 : decode cX15_close 132 = .ok (.invokeinterface 143 2, 5) := by decide +kernel
theorem dX15_close_137 : decode cX15_close 137 = .ok (.checkcast 110, 3) := by decide +kernel
theorem dX15_close_140 : decode cX15_close 140 = .ok (.dup, 1) := by decide +kernel
theorem dX15_close_141 : decode cX15_close 141 = .ok (.getfield 181, 3) := by decide +kernel
theorem dX15_close_144 : decode cX15_close 144 = .ok (.iconst 1, 1) := by decide +kernel
theorem dX15_close_145 : decode cX15_close 145 = .ok (.iadd, 1) := by decide +kernel
theorem dX15_close_146 : decode cX15_close 146 = .ok (.putfield 181, 3) := by decide +kernel
theorem dX15_close_149 : decode cX15_close 149 = .ok (.aload_n 2, 1) := by decide +kernel
theorem dX15_close_150 : decode cX15_close 150 = .ok (.dup, 1) := by decide +kernel
theorem dX15_close_151 : decode cX15_close 151 = .ok (.getfield 181, 3) := by decide +kernel
theorem dX15_close_154 : decode cX15_close 154 = .ok (.aload_n 2, 1) := by decide +kernel
theorem dX15_close_155 : decode cX15_close 155 = .ok (.getfield 153, 3) := by decide +kernel
theorem dX15_close_158 : decode cX15_close 158 = .ok (.ifCond .eq 7, 3) := by decide +kernel
theorem dX15_close_161 : decode cX15_close 161 = .ok (.iconst 1, 1) := by decide +kernel
theorem dX15_close_162 : decode cX15_close 162 = .ok (.goto 4, 3) := by decide +kernel
theorem dX15_close_165 : decode cX15_close 165 = .ok (.iconst 0, 1) := by decide +kernel
theorem dX15_close_166 : decode cX15_close 166 = .ok (.iadd, 1) := by decide +kernel
theorem dX15_close_167 : decode cX15_close 167 = .ok (.putfield 181, 3) := by decide +kernel
theorem dX15_close_170 : decode cX15_close 170 = .ok (.goto (-127), 3) := by decide +kernel
theorem dX15_close_173 : decode cX15_close 173 = .ok (.iconst 0, 1) := by decide +kernel
theorem dX15_close_174 : decode cX15_close 174 = .ok (.istore_n 1, 1) := by decide +kernel
theorem dX15_close_175 : decode cX15_close 175 = .ok (.iload_n 1, 1) := by decide +kernel
theorem dX15_close_176 : decode cX15_close 176 = .ok (.aload_n 0, 1) := by decide +kernel
theorem dX15_close_177 : decode cX15_close 177 = .ok (.getfield 16, 3) := by decide +kernel
theorem dX15_close_180 : decode cX15_close 180 = .ok (.invokeinterface 92 1, 5) := by decide +kernel
theorem dX15_close_185 : decode cX15_close 185 = .ok (.if_icmp .ge 87, 3) := by decide +kernel
theorem dX15_close_188 : decode cX15_close 188 = .ok (.aload_n 0, 1) := by decide +kernel
theorem dX15_close_189 : decode cX15_close 189 = .ok (.iload_n 1, 1) := by decide +kernel
theorem dX15_close_190 : decode cX15_close 190 = .ok (.iconst (-1), 1) := by decide +kernel
theorem dX15_close_191 : decode cX15_close 191 = .ok (.invokevirtual 184, 3) := by decide +kernel
theorem dX15_close_194 : decode cX15_close 194 = .ok (.iconst 0, 1) := by decide +kernel
theorem dX15_close_195 : decode cX15_close 195 = .ok (.istore_n 2, 1) := by decide +kernel
theorem dX15_close_196 : decode cX15_close 196 = .ok (.iload_n 2, 1) := by decide +kernel
theorem dX15_close_197 : decode cX15_close 197 = .ok (.aload_n 0, 1) := by decide +kernel
theorem dX15_close_198 : decode cX15_close 198 = .ok (.getfield 16, 3) := by decide +kernel
theorem dX15_close_201 : decode cX15_close 201 = .ok (.iload_n 1, 1) := by decide +kernel
theorem dX15_close_202 : decode cX15_close 202 = .ok (.invokeinterface 143 2, 5) := by decide +kernel
theorem dX15_close_207 : decode cX15_close 207 = .ok (.checkcast 110, 3) := by decide +kernel
theorem dX15_close_210 : decode cX15_close 210 = .ok (.getfield 178, 3) := by decide +kernel
theorem dX15_close_213 : decode cX15_close 213 = .ok (.arraylength, 1) := by decide +kernel
theorem dX15_close_214 : decode cX15_close 214 = .ok (.if_icmp .ge 52, 3) := by decide +kernel
theorem dX15_close_217 : decode cX15_close 217 = .ok (.aload_n 0, 1) := by decide +kernel
theorem dX15_close_218 : decode cX15_close 218 = .ok (.getfield 16, 3) := by decide +kernel
theorem dX15_close_221 : decode cX15_close 221 = .ok (.aload_n 0, 1) := by decide +kernel
theorem dX15_close_222 : decode cX15_close 222 = .ok (.getfield 16, 3) := by decide +kernel
theorem dX15_close_225 : decode cX15_close 225 = .ok (.iload_n 1, 1) := by decide +kernel
theorem dX15_close_226 : decode cX15_close 226 = .ok (.invokeinterface 143 2, 5) := by decide +kernel
theorem dX15_close_231 : decode cX15_close 231 = .ok (.checkcast 110, 3) := by decide +kernel
theorem dX15_close_234 : decode cX15_close 234 = .ok (.getfield 178, 3) := by decide +kernel
theorem dX15_close_237 : decode cX15_close 237 = .ok (.iload_n 2, 1) := by decide +kernel
theorem dX15_close_238 : decode cX15_close 238 = .ok (.iaload, 1) := by decide +kernel
theorem dX15_close_239 : decode cX15_close 239 = .ok (.invokeinterface 143 2, 5) := by decide +kernel
theorem dX15_close_244 : decode cX15_close 244 = .ok (.checkcast 110, 3) := by decide +kernel
theorem dX15_close_247 : decode cX15_close 247 = .ok (.getfield 181, 3) := by decide +kernel
theorem dX15_close_250 : decode cX15_close 250 = .ok (.iconst 1, 1) := by decide +kernel
theorem dX15_close_251 : decode cX15_close 251 = .ok (.if_icmp .le 9, 3) := by decide +kernel
theorem dX15_close_254 : decode cX15_close 254 = .ok (.aload_n 0, 1) := by decide +kernel
theorem dX15_close_255 : decode cX15_close 255 = .ok (.iload_n 1, 1) := by decide +kernel
theorem dX15_close_256 : decode cX15_close 256 = .ok (.iload_n 2, 1) := by decide +kernel
theorem dX15_close_257 : decode cX15_close 257 = .ok (.invokevirtual 184, 3) := by decide +kernel
theorem dX15_close_260 : decode cX15_close 260 = .ok (.iinc 2 1, 3) := by decide +kernel
theorem dX15_close_263 : decode cX15_close 263 = .ok (.goto (-67), 3) := by decide +kernel
theorem dX15_close_266 : decode cX15_close 266 = .ok (.iinc 1 1, 3) := by decide +kernel
theorem dX15_close_269 : decode cX15_close 269 = .ok (.goto (-94), 3) := by decide +kernel
theorem dX15_close_272 : decode cX15_close 272 = .ok (.aload_n 0, 1) := by decide +kernel
theorem dX15_close_273 : decode cX15_close 273 = .ok (.aload_n 0, 1) := by decide +kernel
theorem dX15_close_274 : decode cX15_close 274 = .ok (.getfield 26, 3) := by decide +kernel
theorem dX15_close_277 : decode cX15_close 277 = .ok (.invokeinterface 92 1, 5) := by decide +kernel
theorem dX15_close_282 : decode cX15_close 282 = .ok (.putfield 188, 3) := by decide +kernel
theorem dX15_close_285 : decode cX15_close 285 = .ok (.aload_n 0, 1) := by decide +kernel
theorem dX15_close_286 : decode cX15_close 286 = .ok (.getfield 188, 3) := by decide +kernel
theorem dX15_close_289 : decode cX15_close 289 = .ok (.ireturn, 1) := by decide +kernel
theorem dX15_firsts_0 : decode cX15_firsts 0 = .ok (.aload_n 0, 1) := by decide +kernel
theorem dX15_firsts_1 : decode cX15_firsts 1 = .ok (.getfield 188, 3) := by decide +kernel
theorem dX15_firsts_4 : decode cX15_firsts 4 = .ok (.newarray .int, 2) := by decide +kernel
theorem dX15_firsts_6 : decode cX15_firsts 6 = .ok (.astore_n 1, 1) := by decide +kernel
theorem dX15_firsts_7 : decode cX15_firsts 7 = .ok (.iconst 0, 1) := by decide +kernel
theorem dX15_firsts_8 : decode cX15_firsts 8 = .ok (.istore_n 2, 1) := by decide +kernel
theorem dX15_firsts_9 : decode cX15_firsts 9 = .ok (.iload_n 2, 1) := by decide +kernel
theorem dX15_firsts_10 : decode cX15_firsts 10 = .ok (.aload_n 0, 1) := by decide +kernel
theorem dX15_firsts_11 : decode cX15_firsts 11 = .ok (.getfield 188, 3) := by decide +kernel
theorem dX15_firsts_14 : decode cX15_firsts 14 = .ok (.if_icmp .ge 13, 3) := by decide +kernel
theorem dX15_firsts_17 : decode cX15_firsts 17 = .ok (.aload_n 1, 1) := by decide +kernel
theorem dX15_firsts_18 : decode cX15_firsts 18 = .ok (.iload_n 2, 1) := by decide +kernel
theorem dX15_firsts_19 : decode cX15_firsts 19 = .ok (.iload_n 2, 1) := by decide +kernel
theorem dX15_firsts_20 : decode cX15_firsts 20 = .ok (.iastore, 1) := by decide +kernel
theorem dX15_firsts_21 : decode cX15_firsts 21 = .ok (.iinc 2 1, 3) := by decide +kernel
theorem dX15_firsts_24 : decode cX15_firsts 24 = .ok (.goto (-15), 3) := by decide +kernel
theorem dX15_firsts_27 : decode cX15_firsts 27 = .ok (.iconst 0, 1) := by decide +kernel
theorem dX15_firsts_28 : decode cX15_firsts 28 = .ok (.istore_n 2, 1) := by decide +kernel
theorem dX15_firsts_29 : decode cX15_firsts 29 = .ok (.iload_n 2, 1) := by decide +kernel
theorem dX15_firsts_30 : decode cX15_firsts 30 = .ok (.aload_n 0, 1) := by decide +kernel
theorem dX15_firsts_31 : decode cX15_firsts 31 = .ok (.getfield 16, 3) := by decide +kernel
theorem dX15_firsts_34 : decode cX15_firsts 34 = .ok (.invokeinterface 92 1, 5) := by decide +kernel
theorem dX15_firsts_39 : decode cX15_firsts 39 = .ok (.if_icmp .ge 190, 3) := by decide +kernel
theorem dX15_firsts_42 : decode cX15_firsts 42 = .ok (.aload_n 0, 1) := by decide +kernel
theorem dX15_firsts_43 : decode cX15_firsts 43 = .ok (.getfield 16, 3) := by decide +kernel
theorem dX15_firsts_46 : decode cX15_firsts 46 = .ok (.iload_n 2, 1) := by decide +kernel
theorem dX15_firsts_47 : decode cX15_firsts 47 = .ok (.invokeinterface 143 2, 5) := by decide +kernel
theorem dX15_firsts_52 : decode cX15_firsts 52 = .ok (.checkcast 110, 3) := by decide +kernel
theorem dX15_firsts_55 : decode cX15_firsts 55 = .ok (.astore_n 3, 1) := by decide +kernel
theorem dX15_firsts_56 : decode cX15_firsts 56 = .ok (.iconst 0, 1) := by decide +kernel
theorem dX15_firsts_57 : decode cX15_firsts 57 = .ok (.istore 4, 2) := by decide +kernel
theorem dX15_firsts_59 : decode cX15_firsts 59 = .ok (.iload 4, 2) := by decide +kernel
theorem dX15_firsts_61 : decode cX15_firsts 61 = .ok (.aload_n 3, 1) := by decide +kernel
theorem dX15_firsts_62 : decode cX15_firsts 62 = .ok (.getfield 178, 3) := by decide +kernel
theorem dX15_firsts_65 : decode cX15_firsts 65 = .ok (.arraylength, 1) := by decide +kernel
theorem dX15_firsts_66 : decode cX15_firsts 66 = .ok (.if_icmp .ge 157, 3) := by decide +kernel
theorem dX15_firsts_69 : decode cX15_firsts 69 = .ok (.aload_n 3, 1) := by decide +kernel
theorem dX15_firsts_70 : decode cX15_firsts 70 = .ok (.getfield 147, 3) := by decide +kernel
theorem dX15_firsts_73 : decode cX15_firsts 73 = .ok (.bipush 120, 2) := by decide +kernel
theorem dX15_firsts_75 : decode cX15_firsts 75 = .ok (.if_icmp .eq 148, 3) := by decide +kernel
theorem dX15_firsts_78 : decode cX15_firsts 78 = .ok (.aload_n 3, 1) := by decide +kernel
theorem dX15_firsts_79 : decode cX15_firsts 79 = .ok (.getfield 226, 3) := by decide +kernel
theorem dX15_firsts_82 : decode cX15_firsts 82 = .ok (.iconst (-1), 1) := by decide +kernel
theorem dX15_firsts_83 : decode cX15_firsts 83 = .ok (.if_icmp .ne 140, 3) := by decide +kernel
theorem dX15_firsts_86 : decode cX15_firsts 86 = .ok (.aload_n 3, 1) := by decide +kernel
theorem dX15_firsts_87 : decode cX15_firsts 87 = .ok (.getfield 147, 3) := by decide +kernel
theorem dX15_firsts_90 : decode cX15_firsts 90 = .ok (.bipush 110, 2) := by decide +kernel
theorem dX15_firsts_92 : decode cX15_firsts 92 = .ok (.if_icmp .eq 21, 3) := by decide +kernel
theorem dX15_firsts_95 : decode cX15_firsts 95 = .ok (.aload_n 3, 1) := by decide +kernel
theorem dX15_firsts_96 : decode cX15_firsts 96 = .ok (.getfield 147, 3) := by decide +kernel
theorem dX15_firsts_99 : decode cX15_firsts 99 = .ok (.bipush 114, 2) := by decide +kernel
theorem dX15_firsts_101 : decode cX15_firsts 101 = .ok (.if_icmp .eq 12, 3) := by decide +kernel
theorem dX15_firsts_104 : decode cX15_firsts 104 = .ok (.aload_n 3, 1) := by decide +kernel
theorem dX15_firsts_105 : decode cX15_firsts 105 = .ok (.getfield 147, 3) := by decide +kernel
theorem dX15_firsts_108 : decode cX15_firsts 108 = .ok (.bipush 118, 2) := by decide +kernel
theorem dX15_firsts_110 : decode cX15_firsts 110 = .ok (.if_icmp .ne 7, 3) := by decide +kernel
theorem dX15_firsts_113 : decode cX15_firsts 113 = .ok (.iconst 1, 1) := by decide +kernel
theorem dX15_firsts_114 : decode cX15_firsts 114 = .ok (.goto 4, 3) := by decide +kernel
theorem dX15_firsts_117 : decode cX15_firsts 117 = .ok (.iconst 0, 1) := by decide +kernel
theorem dX15_firsts_118 : decode cX15_firsts 118 = .ok (.istore 5, 2) := by decide +kernel
theorem dX15_firsts_120 : decode cX15_firsts 120 = .ok (.iconst 0, 1) := by decide +kernel
theorem dX15_firsts_121 : decode cX15_firsts 121 = .ok (.istore 6, 2) := by decide +kernel
theorem dX15_firsts_123 : decode cX15_firsts 123 = .ok (.iload 6, 2) := by decide +kernel
theorem dX15_firsts_125 : decode cX15_firsts 125 = .ok (.iconst 2, 1) := by decide +kernel
theorem dX15_firsts_126 : decode cX15_firsts 126 = .ok (.if_icmp .ge 91, 3) := by decide +kernel
theorem dX15_firsts_129 : decode cX15_firsts 129 = .ok (.aload_n 3, 1) := by decide +kernel
theorem dX15_firsts_130 : decode cX15_firsts 130 = .ok (.getfield 178, 3) := by decide +kernel
theorem dX15_firsts_133 : decode cX15_firsts 133 = .ok (.arraylength, 1) := by decide +kernel
theorem dX15_firsts_134 : decode cX15_firsts 134 = .ok (.iconst 1, 1) := by decide +kernel
theorem dX15_firsts_135 : decode cX15_firsts 135 = .ok (.if_icmp .eq 31, 3) := by decide +kernel
theorem dX15_firsts_138 : decode cX15_firsts 138 = .ok (.iload 6, 2) := by decide +kernel
theorem dX15_firsts_140 : decode cX15_firsts 140 = .ok (.aload_n 3, 1) := by decide +kernel
theorem dX15_firsts_141 : decode cX15_firsts 141 = .ok (.getfield 147, 3) := by decide +kernel
theorem dX15_firsts_144 : decode cX15_firsts 144 = .ok (.bipush 97, 2) := by decide +kernel
theorem dX15_firsts_146 : decode cX15_firsts 146 = .ok (.if_icmp .eq 12, 3) := by decide +kernel
theorem dX15_firsts_149 : decode cX15_firsts 149 = .ok (.aload_n 3, 1) := by decide +kernel
theorem dX15_firsts_150 : decode cX15_firsts 150 = .ok (.getfield 147, 3) := by decide +kernel
theorem dX15_firsts_153 : decode cX15_firsts 153 = .ok (.bipush 110, 2) := by decide +kernel
theorem dX15_firsts_155 : decode cX15_firsts 155 = .ok (.if_icmp .ne 7, 3) := by decide +kernel
theorem dX15_firsts_158 : decode cX15_firsts 158 = .ok (.iconst 0, 1) := by decide +kernel
theorem dX15_firsts_159 : decode cX15_firsts 159 = .ok (.goto 4, 3) := by decide +kernel
theorem dX15_firsts_162 : decode cX15_firsts 162 = .ok (.iconst 1, 1) := by decide +kernel
theorem dX15_firsts_163 : decode cX15_firsts 163 = .ok (.if_icmp .ne 7, 3) := by decide +kernel
theorem dX15_firsts_166 : decode cX15_firsts 166 = .ok (.iconst 1, 1) := by decide +kernel
theorem dX15_firsts_167 : decode cX15_firsts 167 = .ok (.goto 4, 3) := by decide +kernel
theorem dX15_firsts_170 : decode cX15_firsts 170 = .ok (.iconst 0, 1) := by decide +kernel
theorem dX15_firsts_171 : decode cX15_firsts 171 = .ok (.istore 7, 2) := by decide +kernel
theorem dX15_firsts_173 : decode cX15_firsts 173 = .ok (.iload 7, 2) := by decide +kernel
theorem dX15_firsts_175 : decode cX15_firsts 175 = .ok (.ifCond .eq 36, 3) := by decide +kernel
theorem dX15_firsts_178 : decode cX15_firsts 178 = .ok (.aload_n 1, 1) := by decide +kernel
theorem dX15_firsts_179 : decode cX15_firsts 179 = .ok (.aload_n 0, 1) := by decide +kernel
theorem dX15_firsts_180 : decode cX15_firsts 180 = .ok (.iload_n 2, 1) := by decide +kernel
theorem dX15_firsts_181 : decode cX15_firsts 181 = .ok (.iload 4, 2) := by decide +kernel
theorem dX15_firsts_183 : decode cX15_firsts 183 = .ok (.iload 6, 2) := by decide +kernel
theorem dX15_firsts_185 : decode cX15_firsts 185 = .ok (.invokevirtual 307, 3) := by decide +kernel
theorem dX15_firsts_188 : decode cX15_firsts 188 = .ok (.aload_n 0, 1) := by decide +kernel
theorem dX15_firsts_189 : decode cX15_firsts 189 = .ok (.iload_n 2, 1) := by decide +kernel
theorem dX15_firsts_190 : decode cX15_firsts 190 = .ok (.iconst (-1), 1) := by decide +kernel
theorem dX15_firsts_191 : decode cX15_firsts 191 = .ok (.iload 5, 2) := by decide +kernel
theorem dX15_firsts_193 : decode cX15_firsts 193 = .ok (.ifCond .eq 10, 3) := by decide +kernel
theorem dX15_firsts_196 : decode cX15_firsts 196 = .ok (.iconst 1, 1) := by decide +kernel
theorem dX15_firsts_197 : decode cX15_firsts 197 = .ok (.iload 6, 2) := by decide +kernel
theorem dX15_firsts_199 : decode cX15_firsts 199 = .ok (.isub, 1) := by decide +kernel
theorem dX15_firsts_200 : decode cX15_firsts 200 = .ok (.goto 5, 3) := by decide +kernel
theorem dX15_firsts_203 : decode cX15_firsts 203 = .ok (.iload 6, 2) := by decide +kernel
theorem dX15_firsts_205 : decode cX15_firsts 205 = .ok (.invokevirtual 291, 3) := by decide +kernel
theorem dX15_firsts_208 : decode cX15_firsts 208 = .ok (.invokestatic 310, 3) := by decide +kernel
theorem dX15_firsts_211 : decode cX15_firsts 211 = .ok (.iinc 6 1, 3) := by decide +kernel
theorem dX15_firsts_214 : decode cX15_firsts 214 = .ok (.goto (-91), 3) := by decide +kernel
theorem dX15_firsts_217 : decode cX15_firsts 217 = .ok (.iinc 4 1, 3) := by decide +kernel
theorem dX15_firsts_220 : decode cX15_firsts 220 = .ok (.goto (-161), 3) := by decide +kernel
theorem dX15_firsts_223 : decode cX15_firsts 223 = .ok (.iinc 2 1, 3) := by decide +kernel
theorem dX15_firsts_226 : decode cX15_firsts 226 = .ok (.goto (-197), 3) := by decide +kernel
theorem dX15_firsts_229 : decode cX15_firsts 229 = .ok (.iconst 0, 1) := by decide +kernel
theorem dX15_firsts_230 : decode cX15_firsts 230 = .ok (.istore_n 2, 1) := by decide +kernel
theorem dX15_firsts_231 : decode cX15_firsts 231 = .ok (.iload_n 2, 1) := by decide +kernel
theorem dX15_firsts_232 : decode cX15_firsts 232 = .ok (.aload_n 0, 1) := by decide +kernel
theorem dX15_firsts_233 : decode cX15_firsts 233 = .ok (.getfield 188, 3) := by decide +kernel
theorem dX15_firsts_236 : decode cX15_firsts 236 = .ok (.if_icmp .ge 17, 3) := by decide +kernel
theorem dX15_firsts_239 : decode cX15_firsts 239 = .ok (.aload_n 1, 1) := by decide +kernel
theorem dX15_firsts_240 : decode cX15_firsts 240 = .ok (.iload_n 2, 1) := by decide +kernel
theorem dX15_firsts_241 : decode cX15_firsts 241 = .ok (.aload_n 1, 1) := by decide +kernel
theorem dX15_firsts_242 : decode cX15_firsts 242 = .ok (.iload_n 2, 1) := by decide +kernel
theorem dX15_firsts_243 : decode cX15_firsts 243 = .ok (.invokestatic 295, 3) := by decide +kernel
theorem dX15_firsts_246 : decode cX15_firsts 246 = .ok (.iastore, 1) := by decide +kernel
theorem dX15_firsts_247 : decode cX15_firsts 247 = .ok (.iinc 2 1, 3) := by decide +kernel
theorem dX15_firsts_250 : decode cX15_firsts 250 = .ok (.goto (-19), 3) := by decide +kernel
theorem dX15_firsts_253 : decode cX15_firsts 253 = .ok (.aload_n 1, 1) := by decide +kernel
theorem dX15_firsts_254 : decode cX15_firsts 254 = .ok (.areturn, 1) := by decide +kernel
theorem dX15_isBetween_0 : decode cX15_isBetween 0 = .ok (.iload_n 1, 1) := by decide +kernel
theorem dX15_isBetween_1 : decode cX15_isBetween 1 = .ok (.iload_n 0, 1) := by decide +kernel
theorem dX15_isBetween_2 : decode cX15_isBetween 2 = .ok (.if_icmp .gt 12, 3) := by decide +kernel
theorem dX15_isBetween_5 : decode cX15_isBetween 5 = .ok (.iload_n 0, 1) := by decide +kernel
theorem dX15_isBetween_6 : decode cX15_isBetween 6 = .ok (.iload_n 2, 1) := by decide +kernel
theorem dX15_isBetween_7 : decode cX15_isBetween 7 = .ok (.if_icmp .gt 7, 3) := by decide +kernel
theorem dX15_isBetween_10 : decode cX15_isBetween 10 = .ok (.iconst 1, 1) := by decide +kernel
theorem dX15_isBetween_11 : decode cX15_isBetween 11 = .ok (.goto 4, 3) := by decide +kernel
theorem dX15_isBetween_14 : decode cX15_isBetween 14 = .ok (.iconst 0, 1) := by decide +kernel
theorem dX15_isBetween_15 : decode cX15_isBetween 15 = .ok (.ireturn, 1) := by decide +kernel
theorem dX15_isFault_0 : decode cX15_isFault 0 = .ok (.iload_n 1, 1) := by decide +kernel
theorem dX15_isFault_1 : decode cX15_isFault 1 = .ok (.iconst 0, 1) := by decide +kernel
theorem dX15_isFault_2 : decode cX15_isFault 2 = .ok (.aload_n 0, 1) := by decide +kernel
theorem dX15_isFault_3 : decode cX15_isFault 3 = .ok (.getfield 26, 3) := by decide +kernel
theorem dX15_isFault_6 : decode cX15_isFault 6 = .ok (.invokeinterface 92 1, 5) := by decide +kernel
theorem dX15_isFault_11 : decode cX15_isFault 11 = .ok (.iconst 1, 1) := by decide +kernel
theorem dX15_isFault_12 : decode cX15_isFault 12 = .ok (.isub, 1) := by decide +kernel
theorem dX15_isFault_13 : decode cX15_isFault 13 = .ok (.invokestatic 98, 3) := by decide +kernel
theorem dX15_isFault_16 : decode cX15_isFault 16 = .ok (.ireturn, 1) := by decide +kernel
theorem dX15_isLine_0 : decode cX15_isLine 0 = .ok (.iload_n 1, 1) := by decide +kernel
theorem dX15_isLine_1 : decode cX15_isLine 1 = .ok (.iconst 0, 1) := by decide +kernel
theorem dX15_isLine_2 : decode cX15_isLine 2 = .ok (.aload_n 0, 1) := by decide +kernel
theorem dX15_isLine_3 : decode cX15_isLine 3 = .ok (.getfield 16, 3) := by decide +kernel
theorem dX15_isLine_6 : decode cX15_isLine 6 = .ok (.invokeinterface 92 1, 5) := by decide +kernel
theorem dX15_isLine_11 : decode cX15_isLine 11 = .ok (.iconst 1, 1) := by decide +kernel
theorem dX15_isLine_12 : decode cX15_isLine 12 = .ok (.isub, 1) := by decide +kernel
theorem dX15_isLine_13 : decode cX15_isLine 13 = .ok (.invokestatic 98, 3) := by decide +kernel
theorem dX15_isLine_16 : decode cX15_isLine 16 = .ok (.ireturn, 1) := by decide +kernel
theorem dX15_isNoStuck_0 : decode cX15_isNoStuck 0 = .ok (.aload_n 0, 1) := by decide +kernel
theorem dX15_isNoStuck_1 : decode cX15_isNoStuck 1 = .ok (.aload_n 0, 1) := by decide +kernel
theorem dX15_isNoStuck_2 : decode cX15_isNoStuck 2 = .ok (.iload_n 1, 1) := by decide +kernel
theorem dX15_isNoStuck_3 : decode cX15_isNoStuck 3 = .ok (.invokevirtual 286, 3) := by decide +kernel
theorem dX15_isNoStuck_6 : decode cX15_isNoStuck 6 = .ok (.ifCond .ne 7, 3) := by decide +kernel
theorem dX15_isNoStuck_9 : decode cX15_isNoStuck 9 = .ok (.iconst 1, 1) := by decide +kernel
theorem dX15_isNoStuck_10 : decode cX15_isNoStuck 10 = .ok (.goto 27, 3) := by decide +kernel
theorem dX15_isNoStuck_13 : decode cX15_isNoStuck 13 = .ok (.aload_n 0, 1) := by decide +kernel
theorem dX15_isNoStuck_14 : decode cX15_isNoStuck 14 = .ok (.getfield 26, 3) := by decide +kernel
theorem dX15_isNoStuck_17 : decode cX15_isNoStuck 17 = .ok (.iload_n 1, 1) := by decide +kernel
theorem dX15_isNoStuck_18 : decode cX15_isNoStuck 18 = .ok (.invokeinterface 143 2, 5) := by decide +kernel
theorem dX15_isNoStuck_23 : decode cX15_isNoStuck 23 = .ok (.checkcast 170, 3) := by decide +kernel
theorem dX15_isNoStuck_26 : decode cX15_isNoStuck 26 = .ok (.invokevirtual 238, 3) := by decide +kernel
theorem dX15_isNoStuck_29 : decode cX15_isNoStuck 29 = .ok (.ifCond .ne 7, 3) := by decide +kernel
theorem dX15_isNoStuck_32 : decode cX15_isNoStuck 32 = .ok (.iconst 2, 1) := by decide +kernel
theorem dX15_isNoStuck_33 : decode cX15_isNoStuck 33 = .ok (.goto 4, 3) := by decide +kernel
theorem dX15_isNoStuck_36 : decode cX15_isNoStuck 36 = .ok (.iconst 0, 1) := by decide +kernel
theorem dX15_isNoStuck_37 : decode cX15_isNoStuck 37 = .ok (.invokevirtual 106, 3) := by decide +kernel
theorem dX15_isNoStuck_40 : decode cX15_isNoStuck 40 = .ok (.ireturn, 1) := by decide +kernel
theorem dX15_isWrong_0 : decode cX15_isWrong 0 = .ok (.aload_n 0, 1) := by decide +kernel
theorem dX15_isWrong_1 : decode cX15_isWrong 1 = .ok (.iload_n 1, 1) := by decide +kernel
theorem dX15_isWrong_2 : decode cX15_isWrong 2 = .ok (.putfield 1, 3) := by decide +kernel
theorem dX15_isWrong_5 : decode cX15_isWrong 5 = .ok (.iload_n 1, 1) := by decide +kernel
theorem dX15_isWrong_6 : decode cX15_isWrong 6 = .ok (.ifCond .le 7, 3) := by decide +kernel
theorem dX15_isWrong_9 : decode cX15_isWrong 9 = .ok (.iconst 1, 1) := by decide +kernel
theorem dX15_isWrong_10 : decode cX15_isWrong 10 = .ok (.goto 4, 3) := by decide +kernel
theorem dX15_isWrong_13 : decode cX15_isWrong 13 = .ok (.iconst 0, 1) := by decide +kernel
theorem dX15_isWrong_14 : decode cX15_isWrong 14 = .ok (.ireturn, 1) := by decide +kernel
theorem dX15_signed_0 : decode cX15_signed 0 = .ok (.iconst 0, 1) := by decide +kernel
theorem dX15_signed_1 : decode cX15_signed 1 = .ok (.istore_n 2, 1) := by decide +kernel
theorem dX15_signed_2 : decode cX15_signed 2 = .ok (.aload_n 0, 1) := by decide +kernel
theorem dX15_signed_3 : decode cX15_signed 3 = .ok (.getfield 32, 3) := by decide +kernel
theorem dX15_signed_6 : decode cX15_signed 6 = .ok (.invokeinterface 156 1, 5) := by decide +kernel
theorem dX15_signed_11 : decode cX15_signed 11 = .ok (.astore_n 3, 1) := by decide +kernel
theorem dX15_signed_12 : decode cX15_signed 12 = .ok (.aload_n 3, 1) := by decide +kernel
theorem dX15_signed_13 : decode cX15_signed 13 = .ok (.invokeinterface 160 1, 5) := by decide +kernel
theorem dX15_signed_18 : decode cX15_signed 18 = .ok (.ifCond .eq 121, 3) := by decide +kernel
theorem dX15_signed_21 : decode cX15_signed 21 = .ok (.aload_n 3, 1) := by decide +kernel
theorem dX15_signed_22 : decode cX15_signed 22 = .ok (.invokeinterface 166 1, 5) := by decide +kernel
theorem dX15_signed_27 : decode cX15_signed 27 = .ok (.checkcast 200, 3) := by decide +kernel
theorem dX15_signed_30 : decode cX15_signed 30 = .ok (.astore 4, 2) := by decide +kernel
theorem dX15_signed_32 : decode cX15_signed 32 = .ok (.aload_n 1, 1) := by decide +kernel
theorem dX15_signed_33 : decode cX15_signed 33 = .ok (.ifnonnull 19, 3) := by decide +kernel
theorem dX15_signed_36 : decode cX15_signed 36 = .ok (.aload_n 0, 1) := by decide +kernel
theorem dX15_signed_37 : decode cX15_signed 37 = .ok (.aload 4, 2) := by decide +kernel
theorem dX15_signed_39 : decode cX15_signed 39 = .ok (.getfield 256, 3) := by decide +kernel
theorem dX15_signed_42 : decode cX15_signed 42 = .ok (.aload_n 0, 1) := by decide +kernel
theorem dX15_signed_43 : decode cX15_signed 43 = .ok (.getfield 42, 3) := by decide +kernel
theorem dX15_signed_46 : decode cX15_signed 46 = .ok (.invokevirtual 244, 3) := by decide +kernel
theorem dX15_signed_49 : decode cX15_signed 49 = .ok (.goto 13, 3) := by decide +kernel
theorem dX15_signed_52 : decode cX15_signed 52 = .ok (.aload_n 0, 1) := by decide +kernel
theorem dX15_signed_53 : decode cX15_signed 53 = .ok (.aload 4, 2) := by decide +kernel
theorem dX15_signed_55 : decode cX15_signed 55 = .ok (.getfield 256, 3) := by decide +kernel
theorem dX15_signed_58 : decode cX15_signed 58 = .ok (.aload_n 1, 1) := by decide +kernel
theorem dX15_signed_59 : decode cX15_signed 59 = .ok (.invokevirtual 265, 3) := by decide +kernel
theorem dX15_signed_62 : decode cX15_signed 62 = .ok (.aload_n 0, 1) := by decide +kernel
theorem dX15_signed_63 : decode cX15_signed 63 = .ok (.iload_n 2, 1) := by decide +kernel
theorem dX15_signed_64 : decode cX15_signed 64 = .ok (.invokevirtual 382, 3) := by decide +kernel
theorem dX15_signed_67 : decode cX15_signed 67 = .ok (.istore_n 2, 1) := by decide +kernel
theorem dX15_signed_68 : decode cX15_signed 68 = .ok (.iconst 0, 1) := by decide +kernel
theorem dX15_signed_69 : decode cX15_signed 69 = .ok (.istore 5, 2) := by decide +kernel
theorem dX15_signed_71 : decode cX15_signed 71 = .ok (.iconst 0, 1) := by decide +kernel
theorem dX15_signed_72 : decode cX15_signed 72 = .ok (.istore 6, 2) := by decide +kernel
theorem dX15_signed_74 : decode cX15_signed 74 = .ok (.iload 6, 2) := by decide +kernel
theorem dX15_signed_76 : decode cX15_signed 76 = .ok (.aload_n 0, 1) := by decide +kernel
theorem dX15_signed_77 : decode cX15_signed 77 = .ok (.getfield 16, 3) := by decide +kernel
theorem dX15_signed_80 : decode cX15_signed 80 = .ok (.invokeinterface 92 1, 5) := by decide +kernel
theorem dX15_signed_85 : decode cX15_signed 85 = .ok (.if_icmp .ge 51, 3) := by decide +kernel
theorem dX15_signed_88 : decode cX15_signed 88 = .ok (.aload_n 0, 1) := by decide +kernel
theorem dX15_signed_89 : decode cX15_signed 89 = .ok (.iload 6, 2) := by decide +kernel
theorem dX15_signed_91 : decode cX15_signed 91 = .ok (.invokevirtual 197, 3) := by decide +kernel
theorem dX15_signed_94 : decode cX15_signed 94 = .ok (.ifCond .ne 6, 3) := by decide +kernel
theorem dX15_signed_97 : decode cX15_signed 97 = .ok (.goto 33, 3) := by decide +kernel
theorem dX15_signed_100 : decode cX15_signed 100 = .ok (.iload_n 2, 1) := by decide +kernel
theorem dX15_signed_101 : decode cX15_signed 101 = .ok (.aload_n 0, 1) := by decide +kernel
theorem dX15_signed_102 : decode cX15_signed 102 = .ok (.getfield 42, 3) := by decide +kernel
theorem dX15_signed_105 : decode cX15_signed 105 = .ok (.iload 6, 2) := by decide +kernel
theorem dX15_signed_107 : decode cX15_signed 107 = .ok (.iaload, 1) := by decide +kernel
theorem dX15_signed_108 : decode cX15_signed 108 = .ok (.iconst 1, 1) := by decide +kernel
theorem dX15_signed_109 : decode cX15_signed 109 = .ok (.if_icmp .ne 15, 3) := by decide +kernel
theorem dX15_signed_112 : decode cX15_signed 112 = .ok (.iconst 1, 1) := by decide +kernel
theorem dX15_signed_113 : decode cX15_signed 113 = .ok (.iload 5, 2) := by decide +kernel
theorem dX15_signed_115 : decode cX15_signed 115 = .ok (.aload_n 0, 1) := by decide +kernel
theorem dX15_signed_116 : decode cX15_signed 116 = .ok (.getfield 53, 3) := by decide +kernel
theorem dX15_signed_119 : decode cX15_signed 119 = .ok (.irem, 1) := by decide +kernel
theorem dX15_signed_120 : decode cX15_signed 120 = .ok (.ishl, 1) := by decide +kernel
theorem dX15_signed_121 : decode cX15_signed 121 = .ok (.goto 4, 3) := by decide +kernel
theorem dX15_signed_124 : decode cX15_signed 124 = .ok (.iconst 0, 1) := by decide +kernel
theorem dX15_signed_125 : decode cX15_signed 125 = .ok (.ixor, 1) := by decide +kernel
theorem dX15_signed_126 : decode cX15_signed 126 = .ok (.istore_n 2, 1) := by decide +kernel
theorem dX15_signed_127 : decode cX15_signed 127 = .ok (.iinc 5 1, 3) := by decide +kernel
theorem dX15_signed_130 : decode cX15_signed 130 = .ok (.iinc 6 1, 3) := by decide +kernel
theorem dX15_signed_133 : decode cX15_signed 133 = .ok (.goto (-59), 3) := by decide +kernel
theorem dX15_signed_136 : decode cX15_signed 136 = .ok (.goto (-124), 3) := by decide +kernel
theorem dX15_signed_139 : decode cX15_signed 139 = .ok (.iload_n 2, 1) := by decide +kernel
theorem dX15_signed_140 : decode cX15_signed 140 = .ok (.ireturn, 1) := by decide +kernel
set_option maxHeartbeats 4000000 in
set_option maxRecDepth 100000 in
theorem k_Jx35411_init_45d68 (l : Launch) (D : va_G) (g : Nat → ClassId) (z0 sz : Nat) (a : Nat → Nat) (h0 : Nat) (h1 : Nat) : Met l yJx35411_init_45d68 (.code yJx35411_init_45d68 cJx35411_init_45d68 2 none :: TG) (rmk 1 0 0 12) (va_Pc [.ref h0, .ref h1] (PP D g z0 sz [(h0, .inr (4, [.int 0, .int 0, .int 0, .null])), (h1, .inr (5, [.int 0, .ref (g 100), .int 0]))])) (va_Qv (fun (u : Unit) => True) (fun (u : Unit) (t : State) => va_P D vwCl [(h0, .inr (4, [.int 0, .int (-1), .int 0, .ref h1])), (h1, .inr (5, [.int 0, .ref (g 100), .int 0]))] t.heap ∧ va_D (va_A [(h0, .inr (4, [.int 0, .int 0, .int 0, .null])), (h1, .inr (5, [.int 0, .ref (g 100), .int 0]))] sz) [(h0, .inr (4, [.int 0, .int (-1), .int 0, .ref h1])), (h1, .inr (5, [.int 0, .ref (g 100), .int 0]))]) (va_A [(h0, .inr (4, [.int 0, .int 0, .int 0, .null])), (h1, .inr (5, [.int 0, .ref (g 100), .int 0]))] sz)) 0 0 (va_A [(h0, .inr (4, [.int 0, .int 0, .int 0, .null])), (h1, .inr (5, [.int 0, .ref (g 100), .int 0]))] sz) := by
  refine met0 (cc := cJx35411_init_45d68) (n := 2) (by decide) (Nat.le_of_ble_eq_true rfl) ?_
  intro p e s m args below meth c hx hb hr hml hown ht hlocks hnm hP0 hD0 hK hZ hsz hz ls hl
  subst hsz
  have hA : ∀ q : Nat, s.heap.size ≤ q → va_A [(h0, .inr (4, [.int 0, .int 0, .int 0, .null])), (h1, .inr (5, [.int 0, .ref (g 100), .int 0]))] s.heap.size q := Anw
  have hAz : ∀ q, va_A [(h0, .inr (4, [.int 0, .int 0, .int 0, .null])), (h1, .inr (5, [.int 0, .ref (g 100), .int 0]))] s.heap.size q → z0 ≤ q := Awz hz hD0
  have hS : va_S (va_A [(h0, .inr (4, [.int 0, .int 0, .int 0, .null])), (h1, .inr (5, [.int 0, .ref (g 100), .int 0]))] s.heap.size) s.heap s.heap [] := va_S.rf
  have hD : va_D (va_A [(h0, .inr (4, [.int 0, .int 0, .int 0, .null])), (h1, .inr (5, [.int 0, .ref (g 100), .int 0]))] s.heap.size) [(h0, .inr (4, [.int 0, .int 0, .int 0, .null])), (h1, .inr (5, [.int 0, .ref (g 100), .int 0]))] := hD0.self
  have hP : va_P D vwCl [(h0, .inr (4, [.int 0, .int 0, .int 0, .null])), (h1, .inr (5, [.int 0, .ref (g 100), .int 0]))] s.heap := hP0
  have hl : lv_has ls 2 [(0, .ref h0), (1, .ref h1)] := hl
  refine lv_aload_n hx hb dJx35411_init_45d68_0 rfl (lv_at hl 0 rfl) ?_
  refine lv_aload_n hx hb dJx35411_init_45d68_1 rfl (lv_at hl 1 rfl) ?_
  refine va_putF (D := D) (ci := 4) (v := .ref h1) (ty := .object "java/util/ArrayList") (C := RJx35411) (T := TJx35411) (N := 4) hx hb ht in_Jx35411 tyJx35411 tyJx35411_ok nmJx35411 hown hK.1 hP hD hS 0 rfl rfl 3 (by decide) (ht _ w_308) (fun _ h9 => h9) rfl hnm rfl (by decide +kernel) rfl rfl (Nat.le_of_ble_eq_true rfl) dJx35411_init_45d68_2 (fun H locs hP hD hS => ?_)
  have hP : va_P D vwCl [(h0, .inr (4, [.int 0, .int 0, .int 0, .ref h1])), (h1, .inr (5, [.int 0, .ref (g 100), .int 0]))] H := hP
  have hD : va_D (va_A [(h0, .inr (4, [.int 0, .int 0, .int 0, .null])), (h1, .inr (5, [.int 0, .ref (g 100), .int 0]))] s.heap.size) [(h0, .inr (4, [.int 0, .int 0, .int 0, .ref h1])), (h1, .inr (5, [.int 0, .ref (g 100), .int 0]))] := hD
  refine lv_aload_n hx hb dJx35411_init_45d68_5 rfl (lv_at hl 0 rfl) ?_
  refine W.objInit hx hb hown (ht _ w_310) (ht _ w_311) (ht _ w_309) rfl (by rw [hml]; exact hl.1) rfl dJx35411_init_45d68_6 (Nat.le_of_ble_eq_true rfl) (Nat.le_of_ble_eq_true rfl) ?_
  refine W.eq (g2 := F0 m 9 ls []) rfl ?_
  refine lv_aload_n hx hb dJx35411_init_45d68_9 rfl (lv_at hl 0 rfl) ?_
  refine lv_iconst (v := (-1)) hx hb dJx35411_init_45d68_10 (by decide) ?_
  refine va_put (D := D) (ci := 4) (v := .int (-1)) (ty := .int) (C := RJx35411) (T := TJx35411) (N := 4) hx hb ht in_Jx35411 tyJx35411 tyJx35411_ok nmJx35411 hown hK.1 hP hD hS 0 rfl rfl 1 (by decide) (ht _ w_312) (fun _ h9 => h9) rfl (by decide +kernel) rfl rfl (Nat.le_of_ble_eq_true rfl) dJx35411_init_45d68_11 (fun H locs hP hD hS => ?_)
  have hP : va_P D vwCl [(h0, .inr (4, [.int 0, .int (-1), .int 0, .ref h1])), (h1, .inr (5, [.int 0, .ref (g 100), .int 0]))] H := hP
  have hD : va_D (va_A [(h0, .inr (4, [.int 0, .int 0, .int 0, .null])), (h1, .inr (5, [.int 0, .ref (g 100), .int 0]))] s.heap.size) [(h0, .inr (4, [.int 0, .int (-1), .int 0, .ref h1])), (h1, .inr (5, [.int 0, .ref (g 100), .int 0]))] := hD
  refine lv_aload_n hx hb dJx35411_init_45d68_14 rfl (lv_at hl 0 rfl) ?_
  refine lv_aload_n hx hb dJx35411_init_45d68_15 rfl (lv_at hl 0 rfl) ?_
  refine va_get (D := D) (ci := 4) (v := .ref h1) (C := RJx35411) (T := TJx35411) (N := 4) hx hb ht in_Jx35411 hown hK.1 hP 0 rfl rfl 3 (by decide) (ht _ w_308) (fun _ h9 => h9) rfl dJx35411_init_45d68_16 ?_
  refine va_get (D := D) (ci := 5) (v := .int 0) (C := RJx4a65c) (T := TJx4a65c) (N := 3) hx hb ht in_Jx4a65c hown hK.1 hP 1 rfl rfl 0 (by decide) (ht _ w_313) (u_same (ht _ w_314)) rfl dJx35411_init_45d68_19 ?_
  refine va_put (D := D) (ci := 4) (v := .int 0) (ty := .int) (C := RJx35411) (T := TJx35411) (N := 4) hx hb ht in_Jx35411 tyJx35411 tyJx35411_ok nmJx35411 hown hK.1 hP hD hS 0 rfl rfl 2 (by decide) (ht _ w_315) (fun _ h9 => h9) rfl (by decide +kernel) rfl rfl (Nat.le_of_ble_eq_true rfl) dJx35411_init_45d68_22 (fun H locs hP hD hS => ?_)
  have hP : va_P D vwCl [(h0, .inr (4, [.int 0, .int (-1), .int 0, .ref h1])), (h1, .inr (5, [.int 0, .ref (g 100), .int 0]))] H := hP
  have hD : va_D (va_A [(h0, .inr (4, [.int 0, .int 0, .int 0, .null])), (h1, .inr (5, [.int 0, .ref (g 100), .int 0]))] s.heap.size) [(h0, .inr (4, [.int 0, .int (-1), .int 0, .ref h1])), (h1, .inr (5, [.int 0, .ref (g 100), .int 0]))] := hD
  have hP9 := hP.sub (ws' := [(h0, .inr (4, [.int 0, .int (-1), .int 0, .ref h1])), (h1, .inr (5, [.int 0, .ref (g 100), .int 0]))]) [0, 1] rfl
  have hD9 := hD.sub (ws' := [(h0, .inr (4, [.int 0, .int (-1), .int 0, .ref h1])), (h1, .inr (5, [.int 0, .ref (g 100), .int 0]))]) [0, 1] (by decide) rfl
  refine W.widen (k := 0) (n := 0) (Nat.le_of_ble_eq_true rfl) (Nat.le_of_ble_eq_true rfl) ?_
  exact W.vret hx hb hr (fun t ht9 hW9 => ⟨⟨(), rfl, trivial, ⟨(by rw [ht9]; exact hP9), hD9⟩⟩, hS.F ht9⟩) hS.2.2 dJx35411_init_45d68_25 hlocks
set_option maxHeartbeats 4000000 in
set_option maxRecDepth 100000 in
theorem k_Jx4a65c_iterator_32c93 (l : Launch) (D : va_G) (g : Nat → ClassId) (z0 sz : Nat) (a : Nat → Nat) (h0 : Nat) : Met l yJx4a65c_iterator_32c93 (.code yJx4a65c_iterator_32c93 cJx4a65c_iterator_32c93 1 (some (.object "java/util/Iterator")) :: TG) (rmk 2 1 4 33) (va_Pc [.ref h0] (PP D g z0 sz [(h0, .inr (5, [.int 0, .ref (g 100), .int 0]))])) (va_Qr (fun (u : Unit) => True) (fun (u : Unit) (r : Nat) (t : State) => ∃ (q_1 : Nat), q_1 = r ∧ va_P D vwCl [(q_1, .inr (4, [.int 0, .int (-1), .int 0, .ref h0])), (h0, .inr (5, [.int 0, .ref (g 100), .int 0]))] t.heap ∧ va_D (va_A [(h0, .inr (5, [.int 0, .ref (g 100), .int 0]))] sz) [(q_1, .inr (4, [.int 0, .int (-1), .int 0, .ref h0])), (h0, .inr (5, [.int 0, .ref (g 100), .int 0]))]) (va_A [(h0, .inr (5, [.int 0, .ref (g 100), .int 0]))] sz)) 1 4 (va_A [(h0, .inr (5, [.int 0, .ref (g 100), .int 0]))] sz) := by
  refine met0 (cc := cJx4a65c_iterator_32c93) (n := 1) (by decide) (Nat.le_of_ble_eq_true rfl) ?_
  intro p e s m args below meth c hx hb hr hml hown ht hlocks hnm hP0 hD0 hK hZ hsz hz ls hl
  subst hsz
  have hA : ∀ q : Nat, s.heap.size ≤ q → va_A [(h0, .inr (5, [.int 0, .ref (g 100), .int 0]))] s.heap.size q := Anw
  have hAz : ∀ q, va_A [(h0, .inr (5, [.int 0, .ref (g 100), .int 0]))] s.heap.size q → z0 ≤ q := Awz hz hD0
  have hS : va_S (va_A [(h0, .inr (5, [.int 0, .ref (g 100), .int 0]))] s.heap.size) s.heap s.heap [] := va_S.rf
  have hD : va_D (va_A [(h0, .inr (5, [.int 0, .ref (g 100), .int 0]))] s.heap.size) [(h0, .inr (5, [.int 0, .ref (g 100), .int 0]))] := hD0.self
  have hP : va_P D vwCl [(h0, .inr (5, [.int 0, .ref (g 100), .int 0]))] s.heap := hP0
  have hl : lv_has ls 1 [(0, .ref h0)] := hl
  refine va_new (ci := 4) (fs := [.int 0, .int 0, .int 0, .null]) (C := RJx35411) (T := TJx35411) (N := 4) hx hb ht in_Jx35411 tyJx35411 tyJx35411_ok hown (ht _ w_305) (ht _ w_306) (ht _ w_307) hK.1 hP hD hS hA rfl (fun j hj => by rcases (show j = 0 ∨ j = 1 ∨ j = 2 ∨ j = 3 by omega) with rfl | rfl | rfl | rfl <;> rfl) (Nat.le_of_ble_eq_true rfl) (Nat.le_of_ble_eq_true rfl) dJx4a65c_iterator_32c93_0 (fun q_1 H hP hD hS => ?_)
  have hP : va_P D vwCl [(h0, .inr (5, [.int 0, .ref (g 100), .int 0])), (q_1, .inr (4, [.int 0, .int 0, .int 0, .null]))] H := hP
  have hD : va_D (va_A [(h0, .inr (5, [.int 0, .ref (g 100), .int 0]))] s.heap.size) [(h0, .inr (5, [.int 0, .ref (g 100), .int 0])), (q_1, .inr (4, [.int 0, .int 0, .int 0, .null]))] := hD
  refine lv_dup hx hb dJx4a65c_iterator_32c93_3 rfl ?_
  refine lv_aload_n hx hb dJx4a65c_iterator_32c93_4 rfl (lv_at hl 0 rfl) ?_
  have hPc : va_P D vwCl [(q_1, .inr (4, [.int 0, .int 0, .int 0, .null])), (h0, .inr (5, [.int 0, .ref (g 100), .int 0]))] _ := hP.sub (ws' := [(q_1, .inr (4, [.int 0, .int 0, .int 0, .null])), (h0, .inr (5, [.int 0, .ref (g 100), .int 0]))]) [1, 0] rfl
  have hDc : va_D (fun q => z0 ≤ q) [(q_1, .inr (4, [.int 0, .int 0, .int 0, .null])), (h0, .inr (5, [.int 0, .ref (g 100), .int 0]))] := (hD.to hAz).pick (ws' := [(q_1, .inr (4, [.int 0, .int 0, .int 0, .null])), (h0, .inr (5, [.int 0, .ref (g 100), .int 0]))]) [1, 0] (by decide) rfl
  have hFc := va_free (wc := [(q_1, .inr (4, [.int 0, .int 0, .int 0, .null])), (h0, .inr (5, [.int 0, .ref (g 100), .int 0]))]) hD hS hA [1, 0] rfl
  refine va_callv (va_runI (As := [.ref h0]) (rest := [.ref q_1]) ⟨hx, hb, hml, hown, ht⟩ (k_Jx35411_init_45d68 l D g z0 _ a q_1 h0) (cwI 1 ht (gI w_317) rfl rfl rfl (ht _ w_307) (ht _ w_316) (ht _ w_318) rfl (by decide +kernel) (le2 rfl rfl)) ⟨PP.blind, PP.mk' hK hZ hz hAz hS hPc hDc⟩ rfl rfl hl.1 rfl (lv_room (Nat.le_of_ble_eq_true rfl)) dJx4a65c_iterator_32c93_5 (le2 rfl rfl)) hS (fun q _ h => hFc q h) hFc (fun u t H locs ht1 hvm hw hB hz1 hk1 hS => ?_)
  obtain ⟨hP1, hD1⟩ := hB
  rw [ht1] at hP1
  obtain ⟨hP, hD⟩ := va_join (wr := []) (w1 := [(q_1, .inr (4, [.int 0, .int (-1), .int 0, .ref h0])), (h0, .inr (5, [.int 0, .ref (g 100), .int 0]))]) hP hD [1, 0] [] rfl rfl (by decide) (by decide) hk1 hFc hP1 hD1
  have hP : va_P D vwCl [(q_1, .inr (4, [.int 0, .int (-1), .int 0, .ref h0])), (h0, .inr (5, [.int 0, .ref (g 100), .int 0]))] H := hP
  have hD : va_D (va_A [(h0, .inr (5, [.int 0, .ref (g 100), .int 0]))] s.heap.size) [(q_1, .inr (4, [.int 0, .int (-1), .int 0, .ref h0])), (h0, .inr (5, [.int 0, .ref (g 100), .int 0]))] := hD
  have hP9 := hP.sub (ws' := [(q_1, .inr (4, [.int 0, .int (-1), .int 0, .ref h0])), (h0, .inr (5, [.int 0, .ref (g 100), .int 0]))]) [0, 1] rfl
  have hD9 := hD.sub (ws' := [(q_1, .inr (4, [.int 0, .int (-1), .int 0, .ref h0])), (h0, .inr (5, [.int 0, .ref (g 100), .int 0]))]) [0, 1] (by decide) rfl
  refine W.widen (k := 1) (n := 4) (Nat.le_of_ble_eq_true rfl) (Nat.le_of_ble_eq_true rfl) ?_
  exact W.aret (v := .ref q_1) hx hb hr (Or.inl ⟨_, rfl⟩) (Or.inr ⟨_, rfl⟩) (fun t ht9 hW9 => ⟨⟨(), _, rfl, trivial, ⟨q_1, rfl, (by rw [ht9]; exact hP9), hD9⟩⟩, hS.F ht9⟩) hS.2.2 dJx4a65c_iterator_32c93_8 hlocks
set_option maxHeartbeats 4000000 in
set_option maxRecDepth 100000 in
theorem k_Jx35411_hasNext_aae02 (l : Launch) (D : va_G) (g : Nat → ClassId) (z0 sz : Nat) (a : Nat → Nat) (h0 : Nat) (h1 : Nat) : Met l yJx35411_hasNext_aae02 (.code yJx35411_hasNext_aae02 cJx35411_hasNext_aae02 1 (some .boolean) :: TG) (rmk 0 0 0 0) (va_Pc [.ref h0] (PP D g z0 sz [(h0, .inr (4, [.int 0, .int (-1), .int 0, .ref h1])), (h1, .inr (5, [.int 0, .ref (g 100), .int 0]))])) (va_Qi (fun (r : Int32) (u : Unit) => (r = 0) ∧ True) (fun (_ : Unit) (_ : State) => True) (va_A [] sz)) 0 0 (va_A [] sz) := by
  refine met0 (cc := cJx35411_hasNext_aae02) (n := 1) (by decide) (Nat.le_of_ble_eq_true rfl) ?_
  intro p e s m args below meth c hx hb hr hml hown ht hlocks hnm hP0 hD0 hK hZ hsz hz ls hl
  subst hsz
  have hA : ∀ q : Nat, s.heap.size ≤ q → va_A [] s.heap.size q := Anw
  have hAz : ∀ q, va_A [] s.heap.size q → z0 ≤ q := A0z hz
  have hS : va_S (va_A [] s.heap.size) s.heap s.heap [] := va_S.rf
  have hl : lv_has ls 1 [(0, .ref h0)] := hl
  refine lv_aload_n hx hb dJx35411_hasNext_aae02_0 rfl (lv_at hl 0 rfl) ?_
  refine va_get (D := D) (ci := 4) (v := .int 0) (C := RJx35411) (T := TJx35411) (N := 4) hx hb ht in_Jx35411 hown hK.1 (ro0 hP0 hS) 0 rfl rfl 0 (by decide) (ht _ w_324) (fun _ h9 => h9) rfl dJx35411_hasNext_aae02_1 ?_
  refine lv_aload_n hx hb dJx35411_hasNext_aae02_4 rfl (lv_at hl 0 rfl) ?_
  refine va_get (D := D) (ci := 4) (v := .ref h1) (C := RJx35411) (T := TJx35411) (N := 4) hx hb ht in_Jx35411 hown hK.1 (ro0 hP0 hS) 0 rfl rfl 3 (by decide) (ht _ w_308) (fun _ h9 => h9) rfl dJx35411_hasNext_aae02_5 ?_
  refine va_getN (D := D) (ci := 5) (v := .int 0) (C := RJx4a65c) (T := TJx4a65c) (N := 3) hx hb ht in_Jx4a65c hown hK.1 (ro0 hP0 hS) 1 rfl rfl 2 (by decide) (hK.2.2.use w_325) (fun _ h9 => h9) rfl dJx35411_hasNext_aae02_8 ?_
  refine lv_icmp_eq (tgt := 18) hx hb dJx35411_hasNext_aae02_11 (by decide) (fun c_1 => ?_) (fun c_1 => ?_)
  · refine lv_iconst (v := 0) hx hb dJx35411_hasNext_aae02_18 (by decide) ?_
    refine W.widen (k := 0) (n := 0) (Nat.le_of_ble_eq_true rfl) (Nat.le_of_ble_eq_true rfl) ?_
    exact W.zret (v := 0) hx hb hr rfl (fun t ht9 hW9 => ⟨⟨0, (), rfl, ⟨rfl, trivial⟩, trivial⟩, hS.F ht9⟩) hS.2.2 dJx35411_hasNext_aae02_19 hlocks
  · exact absurd c_1 (by decide)
set_option maxHeartbeats 4000000 in
set_option maxRecDepth 100000 in
theorem k_X15_signed (l : Launch) (D : va_G) (g : Nat → ClassId) (z0 sz : Nat) (a : Nat → Nat) : Met l yX15_signed (.code yX15_signed cX15_signed 7 (some .int) :: TG) (rmk 3 1 4 53) (va_Pc [.ref (a 200), .null] (PP D g z0 sz [((a 200), .inr (21, [.int 0, .ref (a 201), .ref (a 202), .ref (a 203), .ref (a 204), .ref (a 205), .ref (a 206), .int 0, .int 0, .int 0, .int 0, .ref (a 208), .ref (a 209), .ref (a 210), .ref (a 211), .ref (a 212), .int 4, .int 12, .int (-1), .int 0, .ref (g 200), .ref (a 213), .int 0, .int 97, .ref (a 214), .ref (a 215), .ref (a 207), .null, .int 0])), ((a 206), .inr (5, [.int 0, .ref (g 100), .int 0]))])) (va_Qi (fun (r : Int32) (u : Unit) => (r = 0) ∧ True) (fun (u : Unit) (t : State) => va_P D vwCl [((a 200), .inr (21, [.int 0, .ref (a 201), .ref (a 202), .ref (a 203), .ref (a 204), .ref (a 205), .ref (a 206), .int 0, .int 0, .int 0, .int 0, .ref (a 208), .ref (a 209), .ref (a 210), .ref (a 211), .ref (a 212), .int 4, .int 12, .int (-1), .int 0, .ref (g 200), .ref (a 213), .int 0, .int 97, .ref (a 214), .ref (a 215), .ref (a 207), .null, .int 0])), ((a 206), .inr (5, [.int 0, .ref (g 100), .int 0]))] t.heap ∧ va_D (va_A [((a 200), .inr (21, [.int 0, .ref (a 201), .ref (a 202), .ref (a 203), .ref (a 204), .ref (a 205), .ref (a 206), .int 0, .int 0, .int 0, .int 0, .ref (a 208), .ref (a 209), .ref (a 210), .ref (a 211), .ref (a 212), .int 4, .int 12, .int (-1), .int 0, .ref (g 200), .ref (a 213), .int 0, .int 97, .ref (a 214), .ref (a 215), .ref (a 207), .null, .int 0])), ((a 206), .inr (5, [.int 0, .ref (g 100), .int 0]))] sz) [((a 200), .inr (21, [.int 0, .ref (a 201), .ref (a 202), .ref (a 203), .ref (a 204), .ref (a 205), .ref (a 206), .int 0, .int 0, .int 0, .int 0, .ref (a 208), .ref (a 209), .ref (a 210), .ref (a 211), .ref (a 212), .int 4, .int 12, .int (-1), .int 0, .ref (g 200), .ref (a 213), .int 0, .int 97, .ref (a 214), .ref (a 215), .ref (a 207), .null, .int 0])), ((a 206), .inr (5, [.int 0, .ref (g 100), .int 0]))]) (va_A [((a 200), .inr (21, [.int 0, .ref (a 201), .ref (a 202), .ref (a 203), .ref (a 204), .ref (a 205), .ref (a 206), .int 0, .int 0, .int 0, .int 0, .ref (a 208), .ref (a 209), .ref (a 210), .ref (a 211), .ref (a 212), .int 4, .int 12, .int (-1), .int 0, .ref (g 200), .ref (a 213), .int 0, .int 97, .ref (a 214), .ref (a 215), .ref (a 207), .null, .int 0])), ((a 206), .inr (5, [.int 0, .ref (g 100), .int 0]))] sz)) 1 4 (va_A [((a 200), .inr (21, [.int 0, .ref (a 201), .ref (a 202), .ref (a 203), .ref (a 204), .ref (a 205), .ref (a 206), .int 0, .int 0, .int 0, .int 0, .ref (a 208), .ref (a 209), .ref (a 210), .ref (a 211), .ref (a 212), .int 4, .int 12, .int (-1), .int 0, .ref (g 200), .ref (a 213), .int 0, .int 97, .ref (a 214), .ref (a 215), .ref (a 207), .null, .int 0])), ((a 206), .inr (5, [.int 0, .ref (g 100), .int 0]))] sz) := by
  refine met0 (cc := cX15_signed) (n := 7) (by decide) (Nat.le_of_ble_eq_true rfl) ?_
  intro p e s m args below meth c hx hb hr hml hown ht hlocks hnm hP0 hD0 hK hZ hsz hz ls hl
  subst hsz
  have hA : ∀ q : Nat, s.heap.size ≤ q → va_A [((a 200), .inr (21, [.int 0, .ref (a 201), .ref (a 202), .ref (a 203), .ref (a 204), .ref (a 205), .ref (a 206), .int 0, .int 0, .int 0, .int 0, .ref (a 208), .ref (a 209), .ref (a 210), .ref (a 211), .ref (a 212), .int 4, .int 12, .int (-1), .int 0, .ref (g 200), .ref (a 213), .int 0, .int 97, .ref (a 214), .ref (a 215), .ref (a 207), .null, .int 0])), ((a 206), .inr (5, [.int 0, .ref (g 100), .int 0]))] s.heap.size q := Anw
  have hAz : ∀ q, va_A [((a 200), .inr (21, [.int 0, .ref (a 201), .ref (a 202), .ref (a 203), .ref (a 204), .ref (a 205), .ref (a 206), .int 0, .int 0, .int 0, .int 0, .ref (a 208), .ref (a 209), .ref (a 210), .ref (a 211), .ref (a 212), .int 4, .int 12, .int (-1), .int 0, .ref (g 200), .ref (a 213), .int 0, .int 97, .ref (a 214), .ref (a 215), .ref (a 207), .null, .int 0])), ((a 206), .inr (5, [.int 0, .ref (g 100), .int 0]))] s.heap.size q → z0 ≤ q := Awz hz hD0
  have hS : va_S (va_A [((a 200), .inr (21, [.int 0, .ref (a 201), .ref (a 202), .ref (a 203), .ref (a 204), .ref (a 205), .ref (a 206), .int 0, .int 0, .int 0, .int 0, .ref (a 208), .ref (a 209), .ref (a 210), .ref (a 211), .ref (a 212), .int 4, .int 12, .int (-1), .int 0, .ref (g 200), .ref (a 213), .int 0, .int 97, .ref (a 214), .ref (a 215), .ref (a 207), .null, .int 0])), ((a 206), .inr (5, [.int 0, .ref (g 100), .int 0]))] s.heap.size) s.heap s.heap [] := va_S.rf
  have hD : va_D (va_A [((a 200), .inr (21, [.int 0, .ref (a 201), .ref (a 202), .ref (a 203), .ref (a 204), .ref (a 205), .ref (a 206), .int 0, .int 0, .int 0, .int 0, .ref (a 208), .ref (a 209), .ref (a 210), .ref (a 211), .ref (a 212), .int 4, .int 12, .int (-1), .int 0, .ref (g 200), .ref (a 213), .int 0, .int 97, .ref (a 214), .ref (a 215), .ref (a 207), .null, .int 0])), ((a 206), .inr (5, [.int 0, .ref (g 100), .int 0]))] s.heap.size) [((a 200), .inr (21, [.int 0, .ref (a 201), .ref (a 202), .ref (a 203), .ref (a 204), .ref (a 205), .ref (a 206), .int 0, .int 0, .int 0, .int 0, .ref (a 208), .ref (a 209), .ref (a 210), .ref (a 211), .ref (a 212), .int 4, .int 12, .int (-1), .int 0, .ref (g 200), .ref (a 213), .int 0, .int 97, .ref (a 214), .ref (a 215), .ref (a 207), .null, .int 0])), ((a 206), .inr (5, [.int 0, .ref (g 100), .int 0]))] := hD0.self
  have hP : va_P D vwCl [((a 200), .inr (21, [.int 0, .ref (a 201), .ref (a 202), .ref (a 203), .ref (a 204), .ref (a 205), .ref (a 206), .int 0, .int 0, .int 0, .int 0, .ref (a 208), .ref (a 209), .ref (a 210), .ref (a 211), .ref (a 212), .int 4, .int 12, .int (-1), .int 0, .ref (g 200), .ref (a 213), .int 0, .int 97, .ref (a 214), .ref (a 215), .ref (a 207), .null, .int 0])), ((a 206), .inr (5, [.int 0, .ref (g 100), .int 0]))] s.heap := hP0
  have hl : lv_has ls 7 [(0, .ref (a 200)), (1, .null)] := hl
  refine lv_iconst (v := 0) hx hb dX15_signed_0 (by decide) ?_
  refine lv_istore_n (lv' := [(2, .int 0), (0, .ref (a 200)), (1, .null)]) hx hb dX15_signed_1 rfl hl (by decide) rfl (fun ls hl => ?_)
  refine lv_aload_n hx hb dX15_signed_2 rfl (lv_at hl 1 rfl) ?_
  refine va_get (D := D) (ci := 21) (v := .ref (a 206)) (C := RX15) (T := TX15) (N := 29) hx hb ht in_X15 hown hK.1 hP 0 rfl rfl 6 (by decide) (ht _ w_304) (fun _ h9 => h9) rfl dX15_signed_3 ?_
  have hPc : va_P D vwCl [((a 206), .inr (5, [.int 0, .ref (g 100), .int 0]))] _ := hP.sub (ws' := [((a 206), .inr (5, [.int 0, .ref (g 100), .int 0]))]) [1] rfl
  have hDc : va_D (fun q => z0 ≤ q) [((a 206), .inr (5, [.int 0, .ref (g 100), .int 0]))] := (hD.to hAz).pick (ws' := [((a 206), .inr (5, [.int 0, .ref (g 100), .int 0]))]) [1] (by decide) rfl
  have hFc := va_free (wc := [((a 206), .inr (5, [.int 0, .ref (g 100), .int 0]))]) hD hS hA [1] rfl
  refine va_callFr (va_runF (As := []) (rest := []) (hK.1.1 5 _ rfl).2 ⟨hx, hb, hml, hown, ht⟩ (k_Jx4a65c_iterator_32c93 l D g z0 _ a (a 206)) (va_cwF 0 ht (gF w_319 w_321 w_322 w_323 w_320) rfl rfl rfl (hK.2.2.2.1 _ (List.mem_of_getElem? (i := 3) rfl)) (by decide +kernel) (le2 rfl rfl)) ⟨PP.blind, va_recv hK.1 hP (ci := 5) (q0 := 1) rfl rfl, PP.mk' hK hZ hz hAz hS hPc hDc⟩ rfl rfl hl.1 rfl (lv_room (Nat.le_of_ble_eq_true rfl)) dX15_signed_6 (le2 rfl rfl)) hS (fun q _ h => hFc q h) hFc (fun u ra t H locs ht1 hvm hw hB hz1 hk1 hS => ?_)
  obtain ⟨q_1, hr9, hP1, hD1⟩ := hB
  rw [ht1] at hP1
  obtain ⟨hP, hD⟩ := va_join (wr := [((a 200), .inr (21, [.int 0, .ref (a 201), .ref (a 202), .ref (a 203), .ref (a 204), .ref (a 205), .ref (a 206), .int 0, .int 0, .int 0, .int 0, .ref (a 208), .ref (a 209), .ref (a 210), .ref (a 211), .ref (a 212), .int 4, .int 12, .int (-1), .int 0, .ref (g 200), .ref (a 213), .int 0, .int 97, .ref (a 214), .ref (a 215), .ref (a 207), .null, .int 0]))]) (w1 := [(q_1, .inr (4, [.int 0, .int (-1), .int 0, .ref (a 206)])), ((a 206), .inr (5, [.int 0, .ref (g 100), .int 0]))]) hP hD [1] [0] rfl rfl (by decide) (by decide) hk1 hFc hP1 hD1
  subst hr9
  have hP : va_P D vwCl [((a 200), .inr (21, [.int 0, .ref (a 201), .ref (a 202), .ref (a 203), .ref (a 204), .ref (a 205), .ref (a 206), .int 0, .int 0, .int 0, .int 0, .ref (a 208), .ref (a 209), .ref (a 210), .ref (a 211), .ref (a 212), .int 4, .int 12, .int (-1), .int 0, .ref (g 200), .ref (a 213), .int 0, .int 97, .ref (a 214), .ref (a 215), .ref (a 207), .null, .int 0])), (q_1, .inr (4, [.int 0, .int (-1), .int 0, .ref (a 206)])), ((a 206), .inr (5, [.int 0, .ref (g 100), .int 0]))] H := hP
  have hD : va_D (va_A [((a 200), .inr (21, [.int 0, .ref (a 201), .ref (a 202), .ref (a 203), .ref (a 204), .ref (a 205), .ref (a 206), .int 0, .int 0, .int 0, .int 0, .ref (a 208), .ref (a 209), .ref (a 210), .ref (a 211), .ref (a 212), .int 4, .int 12, .int (-1), .int 0, .ref (g 200), .ref (a 213), .int 0, .int 97, .ref (a 214), .ref (a 215), .ref (a 207), .null, .int 0])), ((a 206), .inr (5, [.int 0, .ref (g 100), .int 0]))] s.heap.size) [((a 200), .inr (21, [.int 0, .ref (a 201), .ref (a 202), .ref (a 203), .ref (a 204), .ref (a 205), .ref (a 206), .int 0, .int 0, .int 0, .int 0, .ref (a 208), .ref (a 209), .ref (a 210), .ref (a 211), .ref (a 212), .int 4, .int 12, .int (-1), .int 0, .ref (g 200), .ref (a 213), .int 0, .int 97, .ref (a 214), .ref (a 215), .ref (a 207), .null, .int 0])), (q_1, .inr (4, [.int 0, .int (-1), .int 0, .ref (a 206)])), ((a 206), .inr (5, [.int 0, .ref (g 100), .int 0]))] := hD
  refine lv_astore_n (lv' := [(3, .ref q_1), (2, .int 0), (0, .ref (a 200)), (1, .null)]) hx hb dX15_signed_11 rfl hl (by decide) rfl (fun ls hl => ?_)
  refine lv_aload_n hx hb dX15_signed_12 rfl (lv_at hl 0 rfl) ?_
  have hPc : va_P D vwCl [(q_1, .inr (4, [.int 0, .int (-1), .int 0, .ref (a 206)])), ((a 206), .inr (5, [.int 0, .ref (g 100), .int 0]))] _ := hP.sub (ws' := [(q_1, .inr (4, [.int 0, .int (-1), .int 0, .ref (a 206)])), ((a 206), .inr (5, [.int 0, .ref (g 100), .int 0]))]) [1, 2] rfl
  have hDc : va_D (fun q => z0 ≤ q) [(q_1, .inr (4, [.int 0, .int (-1), .int 0, .ref (a 206)])), ((a 206), .inr (5, [.int 0, .ref (g 100), .int 0]))] := (hD.to hAz).pick (ws' := [(q_1, .inr (4, [.int 0, .int (-1), .int 0, .ref (a 206)])), ((a 206), .inr (5, [.int 0, .ref (g 100), .int 0]))]) [1, 2] (by decide) rfl
  have hFc := AnA (ws := [((a 200), .inr (21, [.int 0, .ref (a 201), .ref (a 202), .ref (a 203), .ref (a 204), .ref (a 205), .ref (a 206), .int 0, .int 0, .int 0, .int 0, .ref (a 208), .ref (a 209), .ref (a 210), .ref (a 211), .ref (a 212), .int 4, .int 12, .int (-1), .int 0, .ref (g 200), .ref (a 213), .int 0, .int 97, .ref (a 214), .ref (a 215), .ref (a 207), .null, .int 0])), ((a 206), .inr (5, [.int 0, .ref (g 100), .int 0]))]) hS.1
  refine va_callFi (va_runF (As := []) (rest := []) (hK.1.1 4 _ rfl).2 ⟨hx, hb, hml, hown, ht⟩ (k_Jx35411_hasNext_aae02 l D g z0 _ a q_1 (a 206)) (va_cwF 0 ht (gF w_326 w_328 w_329 w_307 w_327) rfl rfl rfl (hK.2.2.2.1 _ (List.mem_of_getElem? (i := 4) rfl)) (by decide +kernel) (le2 rfl rfl)) ⟨PP.blind, va_recv hK.1 hP (ci := 4) (q0 := 1) rfl rfl, PP.mk' hK hZ hz hAz hS hPc hDc⟩ rfl rfl hl.1 rfl (lv_room (Nat.le_of_ble_eq_true rfl)) dX15_signed_13 (le2 rfl rfl)) hS (fun q _ h => hFc q h) hFc (fun r u t H locs ht1 hvm hw hB hz1 hk1 hS => ?_)
  obtain ⟨rfl, hw⟩ := hw
  have hP := ro1 hP hk1
  refine lv_if_eq (tgt := 139) hx hb dX15_signed_18 (by decide) (fun c_2 => ?_) (fun c_2 => ?_)
  · refine lv_iload_n hx hb dX15_signed_139 rfl (lv_at hl 1 rfl) ?_
    have hP9 := hP.sub (ws' := [((a 200), .inr (21, [.int 0, .ref (a 201), .ref (a 202), .ref (a 203), .ref (a 204), .ref (a 205), .ref (a 206), .int 0, .int 0, .int 0, .int 0, .ref (a 208), .ref (a 209), .ref (a 210), .ref (a 211), .ref (a 212), .int 4, .int 12, .int (-1), .int 0, .ref (g 200), .ref (a 213), .int 0, .int 97, .ref (a 214), .ref (a 215), .ref (a 207), .null, .int 0])), ((a 206), .inr (5, [.int 0, .ref (g 100), .int 0]))]) [0, 2] rfl
    have hD9 := hD.sub (ws' := [((a 200), .inr (21, [.int 0, .ref (a 201), .ref (a 202), .ref (a 203), .ref (a 204), .ref (a 205), .ref (a 206), .int 0, .int 0, .int 0, .int 0, .ref (a 208), .ref (a 209), .ref (a 210), .ref (a 211), .ref (a 212), .int 4, .int 12, .int (-1), .int 0, .ref (g 200), .ref (a 213), .int 0, .int 97, .ref (a 214), .ref (a 215), .ref (a 207), .null, .int 0])), ((a 206), .inr (5, [.int 0, .ref (g 100), .int 0]))]) [0, 2] (by decide) rfl
    refine W.widen (k := 1) (n := 4) (Nat.le_of_ble_eq_true rfl) (Nat.le_of_ble_eq_true rfl) ?_
    exact W.iret (v := 0) hx hb hr (fun t ht9 hW9 => ⟨⟨0, (), rfl, ⟨rfl, trivial⟩, ⟨(by rw [ht9]; exact hP9), hD9⟩⟩, hS.F ht9⟩) hS.2.2 dX15_signed_140 hlocks
  · exact absurd c_2 (by decide)
set_option maxHeartbeats 4000000 in
set_option maxRecDepth 100000 in
theorem k_Jxa1e45_init_da8c8 (l : Launch) (D : va_G) (g : Nat → ClassId) (z0 sz : Nat) (a : Nat → Nat) (h0 : Nat) : Met l yJxa1e45_init_da8c8 (.code yJxa1e45_init_da8c8 cJxa1e45_init_da8c8 1 none :: TG) (rmk 1 0 0 12) (va_Pc [.ref h0] (PP D g z0 sz [])) (va_Qv (fun (u : Unit) => True) (fun (_ : Unit) (_ : State) => True) (va_A [] sz)) 0 0 (va_A [] sz) := by
  refine met0 (cc := cJxa1e45_init_da8c8) (n := 1) (by decide) (Nat.le_of_ble_eq_true rfl) ?_
  intro p e s m args below meth c hx hb hr hml hown ht hlocks hnm hP0 hD0 hK hZ hsz hz ls hl
  subst hsz
  have hA : ∀ q : Nat, s.heap.size ≤ q → va_A [] s.heap.size q := Anw
  have hAz : ∀ q, va_A [] s.heap.size q → z0 ≤ q := A0z hz
  have hS : va_S (va_A [] s.heap.size) s.heap s.heap [] := va_S.rf
  have hl : lv_has ls 1 [(0, .ref h0)] := hl
  refine lv_aload_n hx hb dJxa1e45_init_da8c8_0 rfl (lv_at hl 0 rfl) ?_
  refine W.objInit hx hb hown (ht _ w_337) (ht _ w_311) (ht _ w_309) rfl (by rw [hml]; exact hl.1) rfl dJxa1e45_init_da8c8_1 (Nat.le_of_ble_eq_true rfl) (Nat.le_of_ble_eq_true rfl) ?_
  refine W.eq (g2 := F0 m 4 ls []) rfl ?_
  refine W.widen (k := 0) (n := 0) (Nat.le_of_ble_eq_true rfl) (Nat.le_of_ble_eq_true rfl) ?_
  exact W.vret hx hb hr (fun t ht9 hW9 => ⟨⟨(), rfl, trivial, trivial⟩, hS.F ht9⟩) hS.2.2 dJxa1e45_init_da8c8_4 hlocks
set_option maxHeartbeats 4000000 in
set_option maxRecDepth 100000 in
theorem k_Jxc12de_init_da8c8 (l : Launch) (D : va_G) (g : Nat → ClassId) (z0 sz : Nat) (a : Nat → Nat) (h0 : Nat) : Met l yJxc12de_init_da8c8 (.code yJxc12de_init_da8c8 cJxc12de_init_da8c8 1 none :: TG) (rmk 2 0 0 32) (va_Pc [.ref h0] (PP D g z0 sz [(h0, .inr (5, [.int 0, .null, .int 0]))])) (va_Qv (fun (u : Unit) => True) (fun (u : Unit) (t : State) => va_P D vwCl [(h0, .inr (5, [.int 0, .null, .int 0]))] t.heap ∧ va_D (va_A [(h0, .inr (5, [.int 0, .null, .int 0]))] sz) [(h0, .inr (5, [.int 0, .null, .int 0]))]) (va_A [(h0, .inr (5, [.int 0, .null, .int 0]))] sz)) 0 0 (va_A [(h0, .inr (5, [.int 0, .null, .int 0]))] sz) := by
  refine met0 (cc := cJxc12de_init_da8c8) (n := 1) (by decide) (Nat.le_of_ble_eq_true rfl) ?_
  intro p e s m args below meth c hx hb hr hml hown ht hlocks hnm hP0 hD0 hK hZ hsz hz ls hl
  subst hsz
  have hA : ∀ q : Nat, s.heap.size ≤ q → va_A [(h0, .inr (5, [.int 0, .null, .int 0]))] s.heap.size q := Anw
  have hAz : ∀ q, va_A [(h0, .inr (5, [.int 0, .null, .int 0]))] s.heap.size q → z0 ≤ q := Awz hz hD0
  have hS : va_S (va_A [(h0, .inr (5, [.int 0, .null, .int 0]))] s.heap.size) s.heap s.heap [] := va_S.rf
  have hD : va_D (va_A [(h0, .inr (5, [.int 0, .null, .int 0]))] s.heap.size) [(h0, .inr (5, [.int 0, .null, .int 0]))] := hD0.self
  have hP : va_P D vwCl [(h0, .inr (5, [.int 0, .null, .int 0]))] s.heap := hP0
  have hl : lv_has ls 1 [(0, .ref h0)] := hl
  refine lv_aload_n hx hb dJxc12de_init_da8c8_0 rfl (lv_at hl 0 rfl) ?_
  have hPc : va_P D vwCl [] _ := hP.sub (ws' := []) [] rfl
  have hDc : va_D (fun q => z0 ≤ q) [] := (hD.to hAz).pick (ws' := []) [] (by decide) rfl
  have hFc := AnA (ws := [(h0, .inr (5, [.int 0, .null, .int 0]))]) hS.1
  refine va_callv (va_runI (As := []) (rest := []) ⟨hx, hb, hml, hown, ht⟩ (k_Jxa1e45_init_da8c8 l D g z0 _ a h0) (cwI 0 ht (gI w_339) rfl rfl rfl (ht _ w_340) (ht _ w_338) (ht _ w_341) rfl (by decide +kernel) (le2 rfl rfl)) ⟨PP.blind, PP.mk' hK hZ hz hAz hS hPc hDc⟩ rfl rfl hl.1 rfl (lv_room (Nat.le_of_ble_eq_true rfl)) dJxc12de_init_da8c8_1 (le2 rfl rfl)) hS (fun q _ h => hFc q h) hFc (fun u t H locs ht1 hvm hw hB hz1 hk1 hS => ?_)
  have hP := ro1 hP hk1
  refine lv_aload_n hx hb dJxc12de_init_da8c8_4 rfl (lv_at hl 0 rfl) ?_
  refine lv_iconst (v := 0) hx hb dJxc12de_init_da8c8_5 (by decide) ?_
  refine va_put (D := D) (ci := 5) (v := .int 0) (ty := .int) (C := RJx4a65c) (T := TJx4a65c) (N := 3) hx hb ht in_Jx4a65c tyJx4a65c tyJx4a65c_ok nmJx4a65c hown hK.1 hP hD hS 0 rfl rfl 0 (by decide) (ht _ w_342) (fun _ h9 => h9) rfl (by decide +kernel) rfl rfl (Nat.le_of_ble_eq_true rfl) dJxc12de_init_da8c8_6 (fun H locs hP hD hS => ?_)
  have hP : va_P D vwCl [(h0, .inr (5, [.int 0, .null, .int 0]))] H := hP
  have hD : va_D (va_A [(h0, .inr (5, [.int 0, .null, .int 0]))] s.heap.size) [(h0, .inr (5, [.int 0, .null, .int 0]))] := hD
  have hP9 := hP.sub (ws' := [(h0, .inr (5, [.int 0, .null, .int 0]))]) [0] rfl
  have hD9 := hD.sub (ws' := [(h0, .inr (5, [.int 0, .null, .int 0]))]) [0] (by decide) rfl
  refine W.widen (k := 0) (n := 0) (Nat.le_of_ble_eq_true rfl) (Nat.le_of_ble_eq_true rfl) ?_
  exact W.vret hx hb hr (fun t ht9 hW9 => ⟨⟨(), rfl, trivial, ⟨(by rw [ht9]; exact hP9), hD9⟩⟩, hS.F ht9⟩) hS.2.2 dJxc12de_init_da8c8_9 hlocks
set_option maxHeartbeats 4000000 in
set_option maxRecDepth 100000 in
theorem k_Jx4a65c_init_da8c8 (l : Launch) (D : va_G) (g : Nat → ClassId) (z0 sz : Nat) (a : Nat → Nat) (h0 : Nat) : Met l yJx4a65c_init_da8c8 (.code yJx4a65c_init_da8c8 cJx4a65c_init_da8c8 1 none :: TG) (rmk 3 0 0 52) (va_Pc [.ref h0] (PP D g z0 sz [(h0, .inr (5, [.int 0, .null, .int 0]))])) (va_Qv (fun (u : Unit) => True) (fun (u : Unit) (t : State) => va_P D vwCl [(h0, .inr (5, [.int 0, .ref (g 100), .int 0]))] t.heap ∧ va_D (va_A [(h0, .inr (5, [.int 0, .null, .int 0]))] sz) [(h0, .inr (5, [.int 0, .ref (g 100), .int 0]))]) (va_A [(h0, .inr (5, [.int 0, .null, .int 0]))] sz)) 0 0 (va_A [(h0, .inr (5, [.int 0, .null, .int 0]))] sz) := by
  refine met0 (cc := cJx4a65c_init_da8c8) (n := 1) (by decide) (Nat.le_of_ble_eq_true rfl) ?_
  intro p e s m args below meth c hx hb hr hml hown ht hlocks hnm hP0 hD0 hK hZ hsz hz ls hl
  subst hsz
  have hA : ∀ q : Nat, s.heap.size ≤ q → va_A [(h0, .inr (5, [.int 0, .null, .int 0]))] s.heap.size q := Anw
  have hAz : ∀ q, va_A [(h0, .inr (5, [.int 0, .null, .int 0]))] s.heap.size q → z0 ≤ q := Awz hz hD0
  have hS : va_S (va_A [(h0, .inr (5, [.int 0, .null, .int 0]))] s.heap.size) s.heap s.heap [] := va_S.rf
  have hD : va_D (va_A [(h0, .inr (5, [.int 0, .null, .int 0]))] s.heap.size) [(h0, .inr (5, [.int 0, .null, .int 0]))] := hD0.self
  have hP : va_P D vwCl [(h0, .inr (5, [.int 0, .null, .int 0]))] s.heap := hP0
  have hl : lv_has ls 1 [(0, .ref h0)] := hl
  refine lv_aload_n hx hb dJx4a65c_init_da8c8_0 rfl (lv_at hl 0 rfl) ?_
  have hPc : va_P D vwCl [(h0, .inr (5, [.int 0, .null, .int 0]))] _ := hP.sub (ws' := [(h0, .inr (5, [.int 0, .null, .int 0]))]) [0] rfl
  have hDc : va_D (fun q => z0 ≤ q) [(h0, .inr (5, [.int 0, .null, .int 0]))] := (hD.to hAz).pick (ws' := [(h0, .inr (5, [.int 0, .null, .int 0]))]) [0] (by decide) rfl
  have hFc := va_free (wc := [(h0, .inr (5, [.int 0, .null, .int 0]))]) hD hS hA [0] rfl
  refine va_callv (va_runI (As := []) (rest := []) ⟨hx, hb, hml, hown, ht⟩ (k_Jxc12de_init_da8c8 l D g z0 _ a h0) (cwI 0 ht (gI w_344) rfl rfl rfl (ht _ w_345) (ht _ w_343) (ht _ w_346) rfl (by decide +kernel) (le2 rfl rfl)) ⟨PP.blind, PP.mk' hK hZ hz hAz hS hPc hDc⟩ rfl rfl hl.1 rfl (lv_room (Nat.le_of_ble_eq_true rfl)) dJx4a65c_init_da8c8_1 (le2 rfl rfl)) hS (fun q _ h => hFc q h) hFc (fun u t H locs ht1 hvm hw hB hz1 hk1 hS => ?_)
  obtain ⟨hP1, hD1⟩ := hB
  rw [ht1] at hP1
  obtain ⟨hP, hD⟩ := va_join (wr := []) (w1 := [(h0, .inr (5, [.int 0, .null, .int 0]))]) hP hD [0] [] rfl rfl (by decide) (by decide) hk1 hFc hP1 hD1
  have hP : va_P D vwCl [(h0, .inr (5, [.int 0, .null, .int 0]))] H := hP
  have hD : va_D (va_A [(h0, .inr (5, [.int 0, .null, .int 0]))] s.heap.size) [(h0, .inr (5, [.int 0, .null, .int 0]))] := hD
  refine lv_aload_n hx hb dJx4a65c_init_da8c8_4 rfl (lv_at hl 0 rfl) ?_
  refine va_gets (C := "java/util/ArrayList") (n := "DEFAULTCAPACITY_EMPTY_ELEMENTDATA") (d := "[Ljava/lang/Object;") (v := .ref (g 100)) hx hb (hZ.m hAz).1 hS hown (ht _ w_347) (fun _ h9 => h9) dJx4a65c_init_da8c8_5 ?_
  refine va_put (D := D) (ci := 5) (v := .ref (g 100)) (ty := .array (.object "java/lang/Object")) (C := RJx4a65c) (T := TJx4a65c) (N := 3) hx hb ht in_Jx4a65c tyJx4a65c tyJx4a65c_ok nmJx4a65c hown hK.1 hP hD hS 0 rfl rfl 1 (by decide) (ht _ w_348) (fun _ h9 => h9) rfl (by decide +kernel) rfl rfl (Nat.le_of_ble_eq_true rfl) dJx4a65c_init_da8c8_8 (fun H locs hP hD hS => ?_)
  have hP : va_P D vwCl [(h0, .inr (5, [.int 0, .ref (g 100), .int 0]))] H := hP
  have hD : va_D (va_A [(h0, .inr (5, [.int 0, .null, .int 0]))] s.heap.size) [(h0, .inr (5, [.int 0, .ref (g 100), .int 0]))] := hD
  have hP9 := hP.sub (ws' := [(h0, .inr (5, [.int 0, .ref (g 100), .int 0]))]) [0] rfl
  have hD9 := hD.sub (ws' := [(h0, .inr (5, [.int 0, .ref (g 100), .int 0]))]) [0] (by decide) rfl
  refine W.widen (k := 0) (n := 0) (Nat.le_of_ble_eq_true rfl) (Nat.le_of_ble_eq_true rfl) ?_
  exact W.vret hx hb hr (fun t ht9 hW9 => ⟨⟨(), rfl, trivial, ⟨(by rw [ht9]; exact hP9), hD9⟩⟩, hS.F ht9⟩) hS.2.2 dJx4a65c_init_da8c8_11 hlocks
set_option maxHeartbeats 4000000 in
set_option maxRecDepth 100000 in
theorem k_Jx4a65c_size_8abf5 (l : Launch) (D : va_G) (g : Nat → ClassId) (z0 sz : Nat) (a : Nat → Nat) (h0 : Nat) : Met l yJx4a65c_size_8abf5 (.code yJx4a65c_size_8abf5 cJx4a65c_size_8abf5 1 (some .int) :: TG) (rmk 0 0 0 0) (va_Pc [.ref h0] (PP D g z0 sz [(h0, .inr (5, [.int 0, .ref (g 100), .int 0]))])) (va_Qi (fun (r : Int32) (u : Unit) => (r = 0) ∧ True) (fun (_ : Unit) (_ : State) => True) (va_A [] sz)) 0 0 (va_A [] sz) := by
  refine met0 (cc := cJx4a65c_size_8abf5) (n := 1) (by decide) (Nat.le_of_ble_eq_true rfl) ?_
  intro p e s m args below meth c hx hb hr hml hown ht hlocks hnm hP0 hD0 hK hZ hsz hz ls hl
  subst hsz
  have hA : ∀ q : Nat, s.heap.size ≤ q → va_A [] s.heap.size q := Anw
  have hAz : ∀ q, va_A [] s.heap.size q → z0 ≤ q := A0z hz
  have hS : va_S (va_A [] s.heap.size) s.heap s.heap [] := va_S.rf
  have hl : lv_has ls 1 [(0, .ref h0)] := hl
  refine lv_aload_n hx hb dJx4a65c_size_8abf5_0 rfl (lv_at hl 0 rfl) ?_
  refine va_get (D := D) (ci := 5) (v := .int 0) (C := RJx4a65c) (T := TJx4a65c) (N := 3) hx hb ht in_Jx4a65c hown hK.1 (ro0 hP0 hS) 0 rfl rfl 2 (by decide) (ht _ w_355) (fun _ h9 => h9) rfl dJx4a65c_size_8abf5_1 ?_
  refine W.widen (k := 0) (n := 0) (Nat.le_of_ble_eq_true rfl) (Nat.le_of_ble_eq_true rfl) ?_
  exact W.iret (v := 0) hx hb hr (fun t ht9 hW9 => ⟨⟨0, (), rfl, ⟨rfl, trivial⟩, trivial⟩, hS.F ht9⟩) hS.2.2 dJx4a65c_size_8abf5_4 hlocks
set_option maxHeartbeats 4000000 in
set_option maxRecDepth 100000 in
theorem k_X15_firsts (l : Launch) (D : va_G) (g : Nat → ClassId) (z0 sz : Nat) (a : Nat → Nat) : Met l yX15_firsts (.code yX15_firsts cX15_firsts 8 (some (.array .int)) :: TG) (rmk 1 1 0 20) (va_Pc [.ref (a 200)] (PP D g z0 sz [((a 200), f_m a g), ((a 201), .inr (5, [.int 0, .ref (g 100), .int 0]))])) (va_Qr (fun (u : Unit) => True) (fun (u : Unit) (r : Nat) (t : State) => ∃ (q_1 : Nat), q_1 = r ∧ va_P D vwCl [((a 200), f_m a g), ((a 201), .inr (5, [.int 0, .ref (g 100), .int 0])), (q_1, .inl (g 0, 0, .inl (fun _ => 0)))] t.heap ∧ va_D (va_A [((a 200), f_m a g), ((a 201), .inr (5, [.int 0, .ref (g 100), .int 0]))] sz) [((a 200), f_m a g), ((a 201), .inr (5, [.int 0, .ref (g 100), .int 0])), (q_1, .inl (g 0, 0, .inl (fun _ => 0)))]) (va_A [((a 200), f_m a g), ((a 201), .inr (5, [.int 0, .ref (g 100), .int 0]))] sz)) 1 0 (va_A [((a 200), f_m a g), ((a 201), .inr (5, [.int 0, .ref (g 100), .int 0]))] sz) := by
  refine met0 (cc := cX15_firsts) (n := 8) (by decide) (Nat.le_of_ble_eq_true rfl) ?_
  intro p e s m args below meth c hx hb hr hml hown ht hlocks hnm hP0 hD0 hK hZ hsz hz ls hl
  subst hsz
  have hA : ∀ q : Nat, s.heap.size ≤ q → va_A [((a 200), f_m a g), ((a 201), .inr (5, [.int 0, .ref (g 100), .int 0]))] s.heap.size q := Anw
  have hAz : ∀ q, va_A [((a 200), f_m a g), ((a 201), .inr (5, [.int 0, .ref (g 100), .int 0]))] s.heap.size q → z0 ≤ q := Awz hz hD0
  have hS : va_S (va_A [((a 200), f_m a g), ((a 201), .inr (5, [.int 0, .ref (g 100), .int 0]))] s.heap.size) s.heap s.heap [] := va_S.rf
  have hD : va_D (va_A [((a 200), f_m a g), ((a 201), .inr (5, [.int 0, .ref (g 100), .int 0]))] s.heap.size) [((a 200), f_m a g), ((a 201), .inr (5, [.int 0, .ref (g 100), .int 0]))] := hD0.self
  have hP : va_P D vwCl [((a 200), f_m a g), ((a 201), .inr (5, [.int 0, .ref (g 100), .int 0]))] s.heap := hP0
  have hl : lv_has ls 8 [(0, .ref (a 200))] := hl
  refine lv_aload_n hx hb dX15_firsts_0 rfl (lv_at hl 0 rfl) ?_
  refine va_get (D := D) (ci := 21) (v := .int 0) (C := RX15) (T := TX15) (N := 29) hx hb ht in_X15 hown hK.1 hP 0 rfl rfl 8 (by decide) (ht _ w_352) (fun _ h9 => h9) rfl dX15_firsts_1 ?_
  refine r_newa (atype := .int) (cy := g 0) (a0 := (0, .inl (fun _ => 0))) hx hb (ht _ w_353) hK.2.1.1 hP hD hS hA (fun _ => rfl) (by decide) (by decide) (by decide) (Nat.le_of_ble_eq_true rfl) (Nat.le_of_ble_eq_true rfl) dX15_firsts_4 (fun q_1 H hP hD hS => ?_)
  have hP : va_P D vwCl [((a 200), f_m a g), ((a 201), .inr (5, [.int 0, .ref (g 100), .int 0])), (q_1, .inl (g 0, 0, .inl (fun _ => 0)))] H := hP
  have hD : va_D (va_A [((a 200), f_m a g), ((a 201), .inr (5, [.int 0, .ref (g 100), .int 0]))] s.heap.size) [((a 200), f_m a g), ((a 201), .inr (5, [.int 0, .ref (g 100), .int 0])), (q_1, .inl (g 0, 0, .inl (fun _ => 0)))] := hD
  refine lv_astore_n (lv' := [(1, .ref q_1), (0, .ref (a 200))]) hx hb dX15_firsts_6 rfl hl (by decide) rfl (fun ls hl => ?_)
  refine lv_iconst (v := 0) hx hb dX15_firsts_7 (by decide) ?_
  refine lv_istore_n (lv' := [(2, .int 0), (1, .ref q_1), (0, .ref (a 200))]) hx hb dX15_firsts_8 rfl hl (by decide) rfl (fun ls hl => ?_)
  refine lv_iload_n hx hb dX15_firsts_9 rfl (lv_at hl 0 rfl) ?_
  refine lv_aload_n hx hb dX15_firsts_10 rfl (lv_at hl 2 rfl) ?_
  refine va_get (D := D) (ci := 21) (v := .int 0) (C := RX15) (T := TX15) (N := 29) hx hb ht in_X15 hown hK.1 hP 0 rfl rfl 8 (by decide) (ht _ w_352) (fun _ h9 => h9) rfl dX15_firsts_11 ?_
  refine lv_icmp_ge (tgt := 27) hx hb dX15_firsts_14 (by decide) (fun c_2 => ?_) (fun c_2 => ?_)
  · refine lv_iconst (v := 0) hx hb dX15_firsts_27 (by decide) ?_
    refine lv_istore_n (lv' := [(2, .int 0), (1, .ref q_1), (0, .ref (a 200))]) hx hb dX15_firsts_28 rfl hl (by decide) rfl (fun ls hl => ?_)
    refine lv_iload_n hx hb dX15_firsts_29 rfl (lv_at hl 0 rfl) ?_
    refine lv_aload_n hx hb dX15_firsts_30 rfl (lv_at hl 2 rfl) ?_
    refine va_get (D := D) (ci := 21) (v := .ref (a 201)) (C := RX15) (T := TX15) (N := 29) hx hb ht in_X15 hown hK.1 hP 0 rfl rfl 1 (by decide) (ht _ w_354) (fun _ h9 => h9) rfl dX15_firsts_31 ?_
    have hPc : va_P D vwCl [((a 201), .inr (5, [.int 0, .ref (g 100), .int 0]))] _ := hP.sub (ws' := [((a 201), .inr (5, [.int 0, .ref (g 100), .int 0]))]) [1] rfl
    have hDc : va_D (fun q => z0 ≤ q) [((a 201), .inr (5, [.int 0, .ref (g 100), .int 0]))] := (hD.to hAz).pick (ws' := [((a 201), .inr (5, [.int 0, .ref (g 100), .int 0]))]) [1] (by decide) rfl
    have hFc := AnA (ws := [((a 200), f_m a g), ((a 201), .inr (5, [.int 0, .ref (g 100), .int 0]))]) hS.1
    refine va_callFi (va_runF (As := []) (rest := [.int 0]) (hK.1.1 5 _ rfl).2 ⟨hx, hb, hml, hown, ht⟩ (k_Jx4a65c_size_8abf5 l D g z0 _ a (a 201)) (va_cwF 0 ht (gF w_356 w_358 w_359 w_323 w_357) rfl rfl rfl (hK.2.2.2.1 _ (List.mem_of_getElem? (i := 0) rfl)) (by decide +kernel) (le2 rfl rfl)) ⟨PP.blind, va_recv hK.1 hP (ci := 5) (q0 := 1) rfl rfl, PP.mk' hK hZ hz hAz hS hPc hDc⟩ rfl rfl hl.1 rfl (lv_room (Nat.le_of_ble_eq_true rfl)) dX15_firsts_34 (le2 rfl rfl)) hS (fun q _ h => hFc q h) hFc (fun r u t H locs ht1 hvm hw hB hz1 hk1 hS => ?_)
    obtain ⟨rfl, hw⟩ := hw
    have hP := ro1 hP hk1
    refine lv_icmp_ge (tgt := 229) hx hb dX15_firsts_39 (by decide) (fun c_3 => ?_) (fun c_3 => ?_)
    · refine lv_iconst (v := 0) hx hb dX15_firsts_229 (by decide) ?_
      refine lv_istore_n (lv' := [(2, .int 0), (1, .ref q_1), (0, .ref (a 200))]) hx hb dX15_firsts_230 rfl hl (by decide) rfl (fun ls hl => ?_)
      refine lv_iload_n hx hb dX15_firsts_231 rfl (lv_at hl 0 rfl) ?_
      refine lv_aload_n hx hb dX15_firsts_232 rfl (lv_at hl 2 rfl) ?_
      refine va_get (D := D) (ci := 21) (v := .int 0) (C := RX15) (T := TX15) (N := 29) hx hb ht in_X15 hown hK.1 hP 0 rfl rfl 8 (by decide) (ht _ w_352) (fun _ h9 => h9) rfl dX15_firsts_233 ?_
      refine lv_icmp_ge (tgt := 253) hx hb dX15_firsts_236 (by decide) (fun c_4 => ?_) (fun c_4 => ?_)
      · refine lv_aload_n hx hb dX15_firsts_253 rfl (lv_at hl 1 rfl) ?_
        have hP9 := hP.sub (ws' := [((a 200), f_m a g), ((a 201), .inr (5, [.int 0, .ref (g 100), .int 0])), (q_1, .inl (g 0, 0, .inl (fun _ => 0)))]) [0, 1, 2] rfl
        have hD9 := hD.sub (ws' := [((a 200), f_m a g), ((a 201), .inr (5, [.int 0, .ref (g 100), .int 0])), (q_1, .inl (g 0, 0, .inl (fun _ => 0)))]) [0, 1, 2] (by decide) rfl
        refine W.widen (k := 1) (n := 0) (Nat.le_of_ble_eq_true rfl) (Nat.le_of_ble_eq_true rfl) ?_
        exact W.aret (v := .ref q_1) hx hb hr (Or.inr ⟨_, rfl⟩) (Or.inr ⟨_, rfl⟩) (fun t ht9 hW9 => ⟨⟨(), _, rfl, trivial, ⟨q_1, rfl, (by rw [ht9]; exact hP9), hD9⟩⟩, hS.F ht9⟩) hS.2.2 dX15_firsts_254 hlocks
      · exact absurd c_4 (by decide)
    · exact absurd c_3 (by decide)
  · exact absurd c_2 (by decide)
set_option maxHeartbeats 4000000 in
set_option maxRecDepth 100000 in
theorem k_X15_allClasses (l : Launch) (D : va_G) (g : Nat → ClassId) (z0 sz : Nat) (a : Nat → Nat) : Met l yX15_allClasses (.code yX15_allClasses cX15_allClasses 4 (some (.object "java/util/List")) :: TG) (rmk 4 2 3 72) (va_Pc [.ref (a 200)] (PP D g z0 sz [((a 200), f_m a g), ((a 201), .inr (5, [.int 0, .ref (g 100), .int 0]))])) (va_Qr (fun (u : Unit) => True) (fun (u : Unit) (r : Nat) (t : State) => ∃ (q_1 : Nat), q_1 = r ∧ va_P D vwCl [(q_1, .inr (5, [.int 0, .ref (g 100), .int 0])), ((a 200), f_m a g), ((a 201), .inr (5, [.int 0, .ref (g 100), .int 0]))] t.heap ∧ va_D (va_A [((a 200), f_m a g), ((a 201), .inr (5, [.int 0, .ref (g 100), .int 0]))] sz) [(q_1, .inr (5, [.int 0, .ref (g 100), .int 0])), ((a 200), f_m a g), ((a 201), .inr (5, [.int 0, .ref (g 100), .int 0]))]) (va_A [((a 200), f_m a g), ((a 201), .inr (5, [.int 0, .ref (g 100), .int 0]))] sz)) 2 3 (va_A [((a 200), f_m a g), ((a 201), .inr (5, [.int 0, .ref (g 100), .int 0]))] sz) := by
  refine met0 (cc := cX15_allClasses) (n := 4) (by decide) (Nat.le_of_ble_eq_true rfl) ?_
  intro p e s m args below meth c hx hb hr hml hown ht hlocks hnm hP0 hD0 hK hZ hsz hz ls hl
  subst hsz
  have hA : ∀ q : Nat, s.heap.size ≤ q → va_A [((a 200), f_m a g), ((a 201), .inr (5, [.int 0, .ref (g 100), .int 0]))] s.heap.size q := Anw
  have hAz : ∀ q, va_A [((a 200), f_m a g), ((a 201), .inr (5, [.int 0, .ref (g 100), .int 0]))] s.heap.size q → z0 ≤ q := Awz hz hD0
  have hS : va_S (va_A [((a 200), f_m a g), ((a 201), .inr (5, [.int 0, .ref (g 100), .int 0]))] s.heap.size) s.heap s.heap [] := va_S.rf
  have hD : va_D (va_A [((a 200), f_m a g), ((a 201), .inr (5, [.int 0, .ref (g 100), .int 0]))] s.heap.size) [((a 200), f_m a g), ((a 201), .inr (5, [.int 0, .ref (g 100), .int 0]))] := hD0.self
  have hP : va_P D vwCl [((a 200), f_m a g), ((a 201), .inr (5, [.int 0, .ref (g 100), .int 0]))] s.heap := hP0
  have hl : lv_has ls 4 [(0, .ref (a 200))] := hl
  refine va_new (ci := 5) (fs := [.int 0, .null, .int 0]) (C := RJx4a65c) (T := TJx4a65c) (N := 3) hx hb ht in_Jx4a65c tyJx4a65c tyJx4a65c_ok hown (ht _ w_335) (ht _ w_336) (ht _ w_323) hK.1 hP hD hS hA rfl (fun j hj => by rcases (show j = 0 ∨ j = 1 ∨ j = 2 by omega) with rfl | rfl | rfl <;> rfl) (Nat.le_of_ble_eq_true rfl) (Nat.le_of_ble_eq_true rfl) dX15_allClasses_0 (fun q_1 H hP hD hS => ?_)
  have hP : va_P D vwCl [((a 200), f_m a g), ((a 201), .inr (5, [.int 0, .ref (g 100), .int 0])), (q_1, .inr (5, [.int 0, .null, .int 0]))] H := hP
  have hD : va_D (va_A [((a 200), f_m a g), ((a 201), .inr (5, [.int 0, .ref (g 100), .int 0]))] s.heap.size) [((a 200), f_m a g), ((a 201), .inr (5, [.int 0, .ref (g 100), .int 0])), (q_1, .inr (5, [.int 0, .null, .int 0]))] := hD
  refine lv_dup hx hb dX15_allClasses_3 rfl ?_
  have hPc : va_P D vwCl [(q_1, .inr (5, [.int 0, .null, .int 0]))] _ := hP.sub (ws' := [(q_1, .inr (5, [.int 0, .null, .int 0]))]) [2] rfl
  have hDc : va_D (fun q => z0 ≤ q) [(q_1, .inr (5, [.int 0, .null, .int 0]))] := (hD.to hAz).pick (ws' := [(q_1, .inr (5, [.int 0, .null, .int 0]))]) [2] (by decide) rfl
  have hFc := va_free (wc := [(q_1, .inr (5, [.int 0, .null, .int 0]))]) hD hS hA [2] rfl
  refine va_callv (va_runI (As := []) (rest := [.ref q_1]) ⟨hx, hb, hml, hown, ht⟩ (k_Jx4a65c_init_da8c8 l D g z0 _ a q_1) (cwI 0 ht (gI w_350) rfl rfl rfl (ht _ w_323) (ht _ w_349) (ht _ w_351) rfl (by decide +kernel) (le2 rfl rfl)) ⟨PP.blind, PP.mk' hK hZ hz hAz hS hPc hDc⟩ rfl rfl hl.1 rfl (lv_room (Nat.le_of_ble_eq_true rfl)) dX15_allClasses_4 (le2 rfl rfl)) hS (fun q _ h => hFc q h) hFc (fun u t H locs ht1 hvm hw hB hz1 hk1 hS => ?_)
  obtain ⟨hP1, hD1⟩ := hB
  rw [ht1] at hP1
  obtain ⟨hP, hD⟩ := va_join (wr := [((a 200), f_m a g), ((a 201), .inr (5, [.int 0, .ref (g 100), .int 0]))]) (w1 := [(q_1, .inr (5, [.int 0, .ref (g 100), .int 0]))]) hP hD [2] [0, 1] rfl rfl (by decide) (by decide) hk1 hFc hP1 hD1
  have hP : va_P D vwCl [((a 200), f_m a g), ((a 201), .inr (5, [.int 0, .ref (g 100), .int 0])), (q_1, .inr (5, [.int 0, .ref (g 100), .int 0]))] H := hP
  have hD : va_D (va_A [((a 200), f_m a g), ((a 201), .inr (5, [.int 0, .ref (g 100), .int 0]))] s.heap.size) [((a 200), f_m a g), ((a 201), .inr (5, [.int 0, .ref (g 100), .int 0])), (q_1, .inr (5, [.int 0, .ref (g 100), .int 0]))] := hD
  refine lv_astore_n (lv' := [(1, .ref q_1), (0, .ref (a 200))]) hx hb dX15_allClasses_7 rfl hl (by decide) rfl (fun ls hl => ?_)
  refine lv_aload_n hx hb dX15_allClasses_8 rfl (lv_at hl 1 rfl) ?_
  have hPc : va_P D vwCl [((a 200), f_m a g), ((a 201), .inr (5, [.int 0, .ref (g 100), .int 0]))] _ := hP.sub (ws' := [((a 200), f_m a g), ((a 201), .inr (5, [.int 0, .ref (g 100), .int 0]))]) [0, 1] rfl
  have hDc : va_D (fun q => z0 ≤ q) [((a 200), f_m a g), ((a 201), .inr (5, [.int 0, .ref (g 100), .int 0]))] := (hD.to hAz).pick (ws' := [((a 200), f_m a g), ((a 201), .inr (5, [.int 0, .ref (g 100), .int 0]))]) [0, 1] (by decide) rfl
  have hFc := va_free (wc := [((a 200), f_m a g), ((a 201), .inr (5, [.int 0, .ref (g 100), .int 0]))]) hD hS hA [0, 1] rfl
  refine va_callr (va_runV (As := []) (rest := []) ⟨hx, hb, hml, hown, ht⟩ (k_X15_firsts l D g z0 _ a) (cwV 0 ht (gV w_360 w_362 w_363 w_334 w_361) rfl rfl rfl (by decide +kernel) (le2 rfl rfl)) ⟨PP.blind, va_recv hK.1 hP (ci := 21) (q0 := 0) rfl rfl, PP.mk' hK hZ hz hAz hS hPc hDc⟩ rfl rfl hl.1 rfl (lv_room (Nat.le_of_ble_eq_true rfl)) dX15_allClasses_9 (le2 rfl rfl)) hS (fun q _ h => hFc q h) hFc (fun u ra t H locs ht1 hvm hw hB hz1 hk1 hS => ?_)
  obtain ⟨q_2, hr9, hP1, hD1⟩ := hB
  rw [ht1] at hP1
  obtain ⟨hP, hD⟩ := va_join (wr := [(q_1, .inr (5, [.int 0, .ref (g 100), .int 0]))]) (w1 := [((a 200), f_m a g), ((a 201), .inr (5, [.int 0, .ref (g 100), .int 0])), (q_2, .inl (g 0, 0, .inl (fun _ => 0)))]) hP hD [0, 1] [2] rfl rfl (by decide) (by decide) hk1 hFc hP1 hD1
  subst hr9
  have hP : va_P D vwCl [(q_1, .inr (5, [.int 0, .ref (g 100), .int 0])), ((a 200), f_m a g), ((a 201), .inr (5, [.int 0, .ref (g 100), .int 0])), (q_2, .inl (g 0, 0, .inl (fun _ => 0)))] H := hP
  have hD : va_D (va_A [((a 200), f_m a g), ((a 201), .inr (5, [.int 0, .ref (g 100), .int 0]))] s.heap.size) [(q_1, .inr (5, [.int 0, .ref (g 100), .int 0])), ((a 200), f_m a g), ((a 201), .inr (5, [.int 0, .ref (g 100), .int 0])), (q_2, .inl (g 0, 0, .inl (fun _ => 0)))] := hD
  refine lv_astore_n (lv' := [(2, .ref q_2), (1, .ref q_1), (0, .ref (a 200))]) hx hb dX15_allClasses_12 rfl hl (by decide) rfl (fun ls hl => ?_)
  refine lv_iconst (v := 0) hx hb dX15_allClasses_13 (by decide) ?_
  refine lv_istore_n (lv' := [(3, .int 0), (2, .ref q_2), (1, .ref q_1), (0, .ref (a 200))]) hx hb dX15_allClasses_14 rfl hl (by decide) rfl (fun ls hl => ?_)
  refine lv_iload_n hx hb dX15_allClasses_15 rfl (lv_at hl 0 rfl) ?_
  refine lv_aload_n hx hb dX15_allClasses_16 rfl (lv_at hl 3 rfl) ?_
  refine va_get (D := D) (ci := 21) (v := .int 0) (C := RX15) (T := TX15) (N := 29) hx hb ht in_X15 hown hK.1 hP 1 rfl rfl 8 (by decide) (ht _ w_352) (fun _ h9 => h9) rfl dX15_allClasses_17 ?_
  refine lv_icmp_ge (tgt := 47) hx hb dX15_allClasses_20 (by decide) (fun c_3 => ?_) (fun c_3 => ?_)
  · refine lv_aload_n hx hb dX15_allClasses_47 rfl (lv_at hl 2 rfl) ?_
    have hP9 := hP.sub (ws' := [(q_1, .inr (5, [.int 0, .ref (g 100), .int 0])), ((a 200), f_m a g), ((a 201), .inr (5, [.int 0, .ref (g 100), .int 0]))]) [0, 1, 2] rfl
    have hD9 := hD.sub (ws' := [(q_1, .inr (5, [.int 0, .ref (g 100), .int 0])), ((a 200), f_m a g), ((a 201), .inr (5, [.int 0, .ref (g 100), .int 0]))]) [0, 1, 2] (by decide) rfl
    refine W.widen (k := 2) (n := 3) (Nat.le_of_ble_eq_true rfl) (Nat.le_of_ble_eq_true rfl) ?_
    exact W.aret (v := .ref q_1) hx hb hr (Or.inl ⟨_, rfl⟩) (Or.inr ⟨_, rfl⟩) (fun t ht9 hW9 => ⟨⟨(), _, rfl, trivial, ⟨q_1, rfl, (by rw [ht9]; exact hP9), hD9⟩⟩, hS.F ht9⟩) hS.2.2 dX15_allClasses_48 hlocks
  · exact absurd c_3 (by decide)
set_option maxHeartbeats 4000000 in
set_option maxRecDepth 100000 in
theorem k_X15_aliased (l : Launch) (D : va_G) (g : Nat → ClassId) (z0 sz : Nat) (a : Nat → Nat) : Met l yX15_aliased (.code yX15_aliased cX15_aliased 5 (some .int) :: TG) (rmk 5 4 11 95) (va_Pc [.ref (a 200)] (PP D g z0 sz [((a 200), f_m a g), ((a 206), .inr (5, [.int 0, .ref (g 100), .int 0])), ((a 201), .inr (5, [.int 0, .ref (g 100), .int 0]))])) (va_Qi (fun (r : Int32) (u : Unit) => (r = 0) ∧ True) (fun (u : Unit) (t : State) => va_P D vwCl [((a 200), f_m a g)] t.heap ∧ va_D (va_A [((a 200), f_m a g), ((a 206), .inr (5, [.int 0, .ref (g 100), .int 0])), ((a 201), .inr (5, [.int 0, .ref (g 100), .int 0]))] sz) [((a 200), f_m a g)]) (va_A [((a 200), f_m a g), ((a 206), .inr (5, [.int 0, .ref (g 100), .int 0])), ((a 201), .inr (5, [.int 0, .ref (g 100), .int 0]))] sz)) 4 11 (va_A [((a 200), f_m a g), ((a 206), .inr (5, [.int 0, .ref (g 100), .int 0])), ((a 201), .inr (5, [.int 0, .ref (g 100), .int 0]))] sz) := by
  refine met0 (cc := cX15_aliased) (n := 5) (by decide) (Nat.le_of_ble_eq_true rfl) ?_
  intro p e s m args below meth c hx hb hr hml hown ht hlocks hnm hP0 hD0 hK hZ hsz hz ls hl
  subst hsz
  have hA : ∀ q : Nat, s.heap.size ≤ q → va_A [((a 200), f_m a g), ((a 206), .inr (5, [.int 0, .ref (g 100), .int 0])), ((a 201), .inr (5, [.int 0, .ref (g 100), .int 0]))] s.heap.size q := Anw
  have hAz : ∀ q, va_A [((a 200), f_m a g), ((a 206), .inr (5, [.int 0, .ref (g 100), .int 0])), ((a 201), .inr (5, [.int 0, .ref (g 100), .int 0]))] s.heap.size q → z0 ≤ q := Awz hz hD0
  have hS : va_S (va_A [((a 200), f_m a g), ((a 206), .inr (5, [.int 0, .ref (g 100), .int 0])), ((a 201), .inr (5, [.int 0, .ref (g 100), .int 0]))] s.heap.size) s.heap s.heap [] := va_S.rf
  have hD : va_D (va_A [((a 200), f_m a g), ((a 206), .inr (5, [.int 0, .ref (g 100), .int 0])), ((a 201), .inr (5, [.int 0, .ref (g 100), .int 0]))] s.heap.size) [((a 200), f_m a g), ((a 206), .inr (5, [.int 0, .ref (g 100), .int 0])), ((a 201), .inr (5, [.int 0, .ref (g 100), .int 0]))] := hD0.self
  have hP : va_P D vwCl [((a 200), f_m a g), ((a 206), .inr (5, [.int 0, .ref (g 100), .int 0])), ((a 201), .inr (5, [.int 0, .ref (g 100), .int 0]))] s.heap := hP0
  have hl : lv_has ls 5 [(0, .ref (a 200))] := hl
  refine lv_aload_n hx hb dX15_aliased_0 rfl (lv_at hl 0 rfl) ?_
  refine lv_iconst (v := 0) hx hb dX15_aliased_1 (by decide) ?_
  refine va_put (D := D) (ci := 21) (v := .int 0) (ty := .int) (C := RX15) (T := TX15) (N := 29) hx hb ht in_X15 tyX15 tyX15_ok nmX15 hown hK.1 hP hD hS 0 rfl rfl 0 (by decide) (ht _ w_303) (fun _ h9 => h9) rfl (by decide +kernel) rfl rfl (Nat.le_of_ble_eq_true rfl) dX15_aliased_2 (fun H locs hP hD hS => ?_)
  have hP : va_P D vwCl [((a 200), .inr (21, [.int 0, .ref (a 201), .ref (a 202), .ref (a 203), .ref (a 204), .ref (a 205), .ref (a 206), .int 0, .int 0, .int 0, .int 0, .ref (a 208), .ref (a 209), .ref (a 210), .ref (a 211), .ref (a 212), .int 4, .int 12, .int (-1), .int 0, .ref (g 200), .ref (a 213), .int 0, .int 97, .ref (a 214), .ref (a 215), .ref (a 207), .null, .int 0])), ((a 206), .inr (5, [.int 0, .ref (g 100), .int 0])), ((a 201), .inr (5, [.int 0, .ref (g 100), .int 0]))] H := hP
  have hD : va_D (va_A [((a 200), f_m a g), ((a 206), .inr (5, [.int 0, .ref (g 100), .int 0])), ((a 201), .inr (5, [.int 0, .ref (g 100), .int 0]))] s.heap.size) [((a 200), .inr (21, [.int 0, .ref (a 201), .ref (a 202), .ref (a 203), .ref (a 204), .ref (a 205), .ref (a 206), .int 0, .int 0, .int 0, .int 0, .ref (a 208), .ref (a 209), .ref (a 210), .ref (a 211), .ref (a 212), .int 4, .int 12, .int (-1), .int 0, .ref (g 200), .ref (a 213), .int 0, .int 97, .ref (a 214), .ref (a 215), .ref (a 207), .null, .int 0])), ((a 206), .inr (5, [.int 0, .ref (g 100), .int 0])), ((a 201), .inr (5, [.int 0, .ref (g 100), .int 0]))] := hD
  refine lv_iconst (v := 0) hx hb dX15_aliased_5 (by decide) ?_
  refine lv_istore_n (lv' := [(1, .int 0), (0, .ref (a 200))]) hx hb dX15_aliased_6 rfl hl (by decide) rfl (fun ls hl => ?_)
  refine lv_aload_n hx hb dX15_aliased_7 rfl (lv_at hl 1 rfl) ?_
  refine lv_null hx hb dX15_aliased_8 ?_
  have hPc : va_P D vwCl [((a 200), .inr (21, [.int 0, .ref (a 201), .ref (a 202), .ref (a 203), .ref (a 204), .ref (a 205), .ref (a 206), .int 0, .int 0, .int 0, .int 0, .ref (a 208), .ref (a 209), .ref (a 210), .ref (a 211), .ref (a 212), .int 4, .int 12, .int (-1), .int 0, .ref (g 200), .ref (a 213), .int 0, .int 97, .ref (a 214), .ref (a 215), .ref (a 207), .null, .int 0])), ((a 206), .inr (5, [.int 0, .ref (g 100), .int 0]))] _ := hP.sub (ws' := [((a 200), .inr (21, [.int 0, .ref (a 201), .ref (a 202), .ref (a 203), .ref (a 204), .ref (a 205), .ref (a 206), .int 0, .int 0, .int 0, .int 0, .ref (a 208), .ref (a 209), .ref (a 210), .ref (a 211), .ref (a 212), .int 4, .int 12, .int (-1), .int 0, .ref (g 200), .ref (a 213), .int 0, .int 97, .ref (a 214), .ref (a 215), .ref (a 207), .null, .int 0])), ((a 206), .inr (5, [.int 0, .ref (g 100), .int 0]))]) [0, 1] rfl
  have hDc : va_D (fun q => z0 ≤ q) [((a 200), .inr (21, [.int 0, .ref (a 201), .ref (a 202), .ref (a 203), .ref (a 204), .ref (a 205), .ref (a 206), .int 0, .int 0, .int 0, .int 0, .ref (a 208), .ref (a 209), .ref (a 210), .ref (a 211), .ref (a 212), .int 4, .int 12, .int (-1), .int 0, .ref (g 200), .ref (a 213), .int 0, .int 97, .ref (a 214), .ref (a 215), .ref (a 207), .null, .int 0])), ((a 206), .inr (5, [.int 0, .ref (g 100), .int 0]))] := (hD.to hAz).pick (ws' := [((a 200), .inr (21, [.int 0, .ref (a 201), .ref (a 202), .ref (a 203), .ref (a 204), .ref (a 205), .ref (a 206), .int 0, .int 0, .int 0, .int 0, .ref (a 208), .ref (a 209), .ref (a 210), .ref (a 211), .ref (a 212), .int 4, .int 12, .int (-1), .int 0, .ref (g 200), .ref (a 213), .int 0, .int 97, .ref (a 214), .ref (a 215), .ref (a 207), .null, .int 0])), ((a 206), .inr (5, [.int 0, .ref (g 100), .int 0]))]) [0, 1] (by decide) rfl
  have hFc := va_free (wc := [((a 200), .inr (21, [.int 0, .ref (a 201), .ref (a 202), .ref (a 203), .ref (a 204), .ref (a 205), .ref (a 206), .int 0, .int 0, .int 0, .int 0, .ref (a 208), .ref (a 209), .ref (a 210), .ref (a 211), .ref (a 212), .int 4, .int 12, .int (-1), .int 0, .ref (g 200), .ref (a 213), .int 0, .int 97, .ref (a 214), .ref (a 215), .ref (a 207), .null, .int 0])), ((a 206), .inr (5, [.int 0, .ref (g 100), .int 0]))]) hD hS hA [0, 1] rfl
  refine va_calli (va_runV (As := [.null]) (rest := []) ⟨hx, hb, hml, hown, ht⟩ (k_X15_signed l D g z0 _ a) (cwV 1 ht (gV w_330 w_332 w_333 w_334 w_331) rfl rfl rfl (by decide +kernel) (le2 rfl rfl)) ⟨PP.blind, va_recv hK.1 hP (ci := 21) (q0 := 0) rfl rfl, PP.mk' hK hZ hz hAz hS hPc hDc⟩ rfl rfl hl.1 rfl (lv_room (Nat.le_of_ble_eq_true rfl)) dX15_aliased_9 (le2 rfl rfl)) hS (fun q _ h => hFc q h) hFc (fun r u t H locs ht1 hvm hw hB hz1 hk1 hS => ?_)
  obtain ⟨rfl, hw⟩ := hw
  obtain ⟨hP1, hD1⟩ := hB
  rw [ht1] at hP1
  obtain ⟨hP, hD⟩ := va_join (wr := [((a 201), .inr (5, [.int 0, .ref (g 100), .int 0]))]) (w1 := [((a 200), f_m a g), ((a 206), .inr (5, [.int 0, .ref (g 100), .int 0]))]) hP hD [0, 1] [2] rfl rfl (by decide) (by decide) hk1 hFc hP1 hD1
  have hP : va_P D vwCl [((a 201), .inr (5, [.int 0, .ref (g 100), .int 0])), ((a 200), f_m a g), ((a 206), .inr (5, [.int 0, .ref (g 100), .int 0]))] H := hP
  have hD : va_D (va_A [((a 200), f_m a g), ((a 206), .inr (5, [.int 0, .ref (g 100), .int 0])), ((a 201), .inr (5, [.int 0, .ref (g 100), .int 0]))] s.heap.size) [((a 201), .inr (5, [.int 0, .ref (g 100), .int 0])), ((a 200), f_m a g), ((a 206), .inr (5, [.int 0, .ref (g 100), .int 0]))] := hD
  refine lv_istore_n (lv' := [(2, .int 0), (1, .int 0), (0, .ref (a 200))]) hx hb dX15_aliased_12 rfl hl (by decide) rfl (fun ls hl => ?_)
  refine lv_aload_n hx hb dX15_aliased_13 rfl (lv_at hl 2 rfl) ?_
  have hPc : va_P D vwCl [((a 200), f_m a g), ((a 201), .inr (5, [.int 0, .ref (g 100), .int 0]))] _ := hP.sub (ws' := [((a 200), f_m a g), ((a 201), .inr (5, [.int 0, .ref (g 100), .int 0]))]) [1, 0] rfl
  have hDc : va_D (fun q => z0 ≤ q) [((a 200), f_m a g), ((a 201), .inr (5, [.int 0, .ref (g 100), .int 0]))] := (hD.to hAz).pick (ws' := [((a 200), f_m a g), ((a 201), .inr (5, [.int 0, .ref (g 100), .int 0]))]) [1, 0] (by decide) rfl
  have hFc := va_free (wc := [((a 200), f_m a g), ((a 201), .inr (5, [.int 0, .ref (g 100), .int 0]))]) hD hS hA [1, 0] rfl
  refine va_callr (va_runV (As := []) (rest := []) ⟨hx, hb, hml, hown, ht⟩ (k_X15_allClasses l D g z0 _ a) (cwV 0 ht (gV w_364 w_366 w_367 w_334 w_365) rfl rfl rfl (by decide +kernel) (le2 rfl rfl)) ⟨PP.blind, va_recv hK.1 hP (ci := 21) (q0 := 1) rfl rfl, PP.mk' hK hZ hz hAz hS hPc hDc⟩ rfl rfl hl.1 rfl (lv_room (Nat.le_of_ble_eq_true rfl)) dX15_aliased_14 (le2 rfl rfl)) hS (fun q _ h => hFc q h) hFc (fun u ra t H locs ht1 hvm hw hB hz1 hk1 hS => ?_)
  obtain ⟨q_1, hr9, hP1, hD1⟩ := hB
  rw [ht1] at hP1
  obtain ⟨hP, hD⟩ := va_join (wr := [((a 206), .inr (5, [.int 0, .ref (g 100), .int 0]))]) (w1 := [(q_1, .inr (5, [.int 0, .ref (g 100), .int 0])), ((a 200), f_m a g), ((a 201), .inr (5, [.int 0, .ref (g 100), .int 0]))]) hP hD [1, 0] [2] rfl rfl (by decide) (by decide) hk1 hFc hP1 hD1
  subst hr9
  have hP : va_P D vwCl [((a 206), .inr (5, [.int 0, .ref (g 100), .int 0])), (q_1, .inr (5, [.int 0, .ref (g 100), .int 0])), ((a 200), f_m a g), ((a 201), .inr (5, [.int 0, .ref (g 100), .int 0]))] H := hP
  have hD : va_D (va_A [((a 200), f_m a g), ((a 206), .inr (5, [.int 0, .ref (g 100), .int 0])), ((a 201), .inr (5, [.int 0, .ref (g 100), .int 0]))] s.heap.size) [((a 206), .inr (5, [.int 0, .ref (g 100), .int 0])), (q_1, .inr (5, [.int 0, .ref (g 100), .int 0])), ((a 200), f_m a g), ((a 201), .inr (5, [.int 0, .ref (g 100), .int 0]))] := hD
  have hPc : va_P D vwCl [(q_1, .inr (5, [.int 0, .ref (g 100), .int 0]))] _ := hP.sub (ws' := [(q_1, .inr (5, [.int 0, .ref (g 100), .int 0]))]) [1] rfl
  have hDc : va_D (fun q => z0 ≤ q) [(q_1, .inr (5, [.int 0, .ref (g 100), .int 0]))] := (hD.to hAz).pick (ws' := [(q_1, .inr (5, [.int 0, .ref (g 100), .int 0]))]) [1] (by decide) rfl
  have hFc := va_free (wc := [(q_1, .inr (5, [.int 0, .ref (g 100), .int 0]))]) hD hS hA [1] rfl
  refine va_callFr (va_runF (As := []) (rest := []) (hK.1.1 5 _ rfl).2 ⟨hx, hb, hml, hown, ht⟩ (k_Jx4a65c_iterator_32c93 l D g z0 _ a q_1) (va_cwF 0 ht (gF w_319 w_321 w_322 w_323 w_320) rfl rfl rfl (hK.2.2.2.1 _ (List.mem_of_getElem? (i := 3) rfl)) (by decide +kernel) (le2 rfl rfl)) ⟨PP.blind, va_recv hK.1 hP (ci := 5) (q0 := 1) rfl rfl, PP.mk' hK hZ hz hAz hS hPc hDc⟩ rfl rfl hl.1 rfl (lv_room (Nat.le_of_ble_eq_true rfl)) dX15_aliased_17 (le2 rfl rfl)) hS (fun q _ h => hFc q h) hFc (fun u ra t H locs ht1 hvm hw hB hz1 hk1 hS => ?_)
  obtain ⟨q_2, hr9, hP1, hD1⟩ := hB
  rw [ht1] at hP1
  obtain ⟨hP, hD⟩ := va_join (wr := [((a 206), .inr (5, [.int 0, .ref (g 100), .int 0])), ((a 200), f_m a g), ((a 201), .inr (5, [.int 0, .ref (g 100), .int 0]))]) (w1 := [(q_2, .inr (4, [.int 0, .int (-1), .int 0, .ref q_1])), (q_1, .inr (5, [.int 0, .ref (g 100), .int 0]))]) hP hD [1] [0, 2, 3] rfl rfl (by decide) (by decide) hk1 hFc hP1 hD1
  subst hr9
  have hP : va_P D vwCl [((a 206), .inr (5, [.int 0, .ref (g 100), .int 0])), ((a 200), f_m a g), ((a 201), .inr (5, [.int 0, .ref (g 100), .int 0])), (q_2, .inr (4, [.int 0, .int (-1), .int 0, .ref q_1])), (q_1, .inr (5, [.int 0, .ref (g 100), .int 0]))] H := hP
  have hD : va_D (va_A [((a 200), f_m a g), ((a 206), .inr (5, [.int 0, .ref (g 100), .int 0])), ((a 201), .inr (5, [.int 0, .ref (g 100), .int 0]))] s.heap.size) [((a 206), .inr (5, [.int 0, .ref (g 100), .int 0])), ((a 200), f_m a g), ((a 201), .inr (5, [.int 0, .ref (g 100), .int 0])), (q_2, .inr (4, [.int 0, .int (-1), .int 0, .ref q_1])), (q_1, .inr (5, [.int 0, .ref (g 100), .int 0]))] := hD
  refine lv_astore_n (lv' := [(3, .ref q_2), (2, .int 0), (1, .int 0), (0, .ref (a 200))]) hx hb dX15_aliased_22 rfl hl (by decide) rfl (fun ls hl => ?_)
  refine lv_aload_n hx hb dX15_aliased_23 rfl (lv_at hl 0 rfl) ?_
  have hPc : va_P D vwCl [(q_2, .inr (4, [.int 0, .int (-1), .int 0, .ref q_1])), (q_1, .inr (5, [.int 0, .ref (g 100), .int 0]))] _ := hP.sub (ws' := [(q_2, .inr (4, [.int 0, .int (-1), .int 0, .ref q_1])), (q_1, .inr (5, [.int 0, .ref (g 100), .int 0]))]) [3, 4] rfl
  have hDc : va_D (fun q => z0 ≤ q) [(q_2, .inr (4, [.int 0, .int (-1), .int 0, .ref q_1])), (q_1, .inr (5, [.int 0, .ref (g 100), .int 0]))] := (hD.to hAz).pick (ws' := [(q_2, .inr (4, [.int 0, .int (-1), .int 0, .ref q_1])), (q_1, .inr (5, [.int 0, .ref (g 100), .int 0]))]) [3, 4] (by decide) rfl
  have hFc := AnA (ws := [((a 200), f_m a g), ((a 206), .inr (5, [.int 0, .ref (g 100), .int 0])), ((a 201), .inr (5, [.int 0, .ref (g 100), .int 0]))]) hS.1
  refine va_callFi (va_runF (As := []) (rest := []) (hK.1.1 4 _ rfl).2 ⟨hx, hb, hml, hown, ht⟩ (k_Jx35411_hasNext_aae02 l D g z0 _ a q_2 q_1) (va_cwF 0 ht (gF w_326 w_328 w_329 w_307 w_327) rfl rfl rfl (hK.2.2.2.1 _ (List.mem_of_getElem? (i := 4) rfl)) (by decide +kernel) (le2 rfl rfl)) ⟨PP.blind, va_recv hK.1 hP (ci := 4) (q0 := 3) rfl rfl, PP.mk' hK hZ hz hAz hS hPc hDc⟩ rfl rfl hl.1 rfl (lv_room (Nat.le_of_ble_eq_true rfl)) dX15_aliased_24 (le2 rfl rfl)) hS (fun q _ h => hFc q h) hFc (fun r u t H locs ht1 hvm hw hB hz1 hk1 hS => ?_)
  obtain ⟨rfl, hw⟩ := hw
  have hP := ro1 hP hk1
  refine lv_if_eq (tgt := 92) hx hb dX15_aliased_29 (by decide) (fun c_3 => ?_) (fun c_3 => ?_)
  · refine lv_iload_n hx hb dX15_aliased_92 rfl (lv_at hl 2 rfl) ?_
    have hP9 := hP.sub (ws' := [((a 200), f_m a g)]) [1] rfl
    have hD9 := hD.sub (ws' := [((a 200), f_m a g)]) [1] (by decide) rfl
    refine W.widen (k := 4) (n := 11) (Nat.le_of_ble_eq_true rfl) (Nat.le_of_ble_eq_true rfl) ?_
    exact W.iret (v := 0) hx hb hr (fun t ht9 hW9 => ⟨⟨0, (), rfl, ⟨rfl, trivial⟩, ⟨(by rw [ht9]; exact hP9), hD9⟩⟩, hS.F ht9⟩) hS.2.2 dX15_aliased_93 hlocks
  · exact absurd c_3 (by decide)
set_option maxHeartbeats 4000000 in
set_option maxRecDepth 100000 in
theorem k_X15_isBetween (l : Launch) (D : va_G) (g : Nat → ClassId) (z0 sz : Nat) (a : Nat → Nat) (p0 : Int32) : Met l yX15_isBetween (.code yX15_isBetween cX15_isBetween 3 (some .boolean) :: TG) (rmk 0 0 0 0) (va_Pc [.int p0, .int 0, .int (-1)] (PP D g z0 sz [])) (va_Qi (fun (r : Int32) (u : Unit) => (r = 0) ∧ True) (fun (_ : Unit) (_ : State) => True) (va_A [] sz)) 0 0 (va_A [] sz) := by
  refine met0 (cc := cX15_isBetween) (n := 3) (by decide) (Nat.le_of_ble_eq_true rfl) ?_
  intro p e s m args below meth c hx hb hr hml hown ht hlocks hnm hP0 hD0 hK hZ hsz hz ls hl
  subst hsz
  have hA : ∀ q : Nat, s.heap.size ≤ q → va_A [] s.heap.size q := Anw
  have hAz : ∀ q, va_A [] s.heap.size q → z0 ≤ q := A0z hz
  have hS : va_S (va_A [] s.heap.size) s.heap s.heap [] := va_S.rf
  have hl : lv_has ls 3 [(0, .int p0), (1, .int 0), (2, .int (-1))] := hl
  refine lv_iload_n hx hb dX15_isBetween_0 rfl (lv_at hl 1 rfl) ?_
  refine lv_iload_n hx hb dX15_isBetween_1 rfl (lv_at hl 0 rfl) ?_
  refine lv_icmp_gt (tgt := 14) hx hb dX15_isBetween_2 (by decide) (fun c_1 => ?_) (fun c_1 => ?_)
  · refine lv_iconst (v := 0) hx hb dX15_isBetween_14 (by decide) ?_
    refine W.widen (k := 0) (n := 0) (Nat.le_of_ble_eq_true rfl) (Nat.le_of_ble_eq_true rfl) ?_
    exact W.zret (v := 0) hx hb hr rfl (fun t ht9 hW9 => ⟨⟨0, (), rfl, ⟨rfl, trivial⟩, trivial⟩, hS.F ht9⟩) hS.2.2 dX15_isBetween_15 hlocks
  · refine lv_iload_n hx hb dX15_isBetween_5 rfl (lv_at hl 0 rfl) ?_
    refine lv_iload_n hx hb dX15_isBetween_6 rfl (lv_at hl 2 rfl) ?_
    refine lv_icmp_gt (tgt := 14) hx hb dX15_isBetween_7 (by decide) (fun c_2 => ?_) (fun c_2 => ?_)
    · refine lv_iconst (v := 0) hx hb dX15_isBetween_14 (by decide) ?_
      refine W.widen (k := 0) (n := 0) (Nat.le_of_ble_eq_true rfl) (Nat.le_of_ble_eq_true rfl) ?_
      exact W.zret (v := 0) hx hb hr rfl (fun t ht9 hW9 => ⟨⟨0, (), rfl, ⟨rfl, trivial⟩, trivial⟩, hS.F ht9⟩) hS.2.2 dX15_isBetween_15 hlocks
    · exact absurd (Int.le_trans (lo_nlt c_1) (up_nlt c_2)) (by decide)
set_option maxHeartbeats 4000000 in
set_option maxRecDepth 100000 in
theorem k_X15_isFault (l : Launch) (D : va_G) (g : Nat → ClassId) (z0 sz : Nat) (a : Nat → Nat) (p0 : Int32) : Met l yX15_isFault (.code yX15_isFault cX15_isFault 2 (some .boolean) :: TG) (rmk 1 0 0 22) (va_Pc [.ref (a 200), .int p0] (PP D g z0 sz [((a 200), f_m a g), ((a 204), .inr (5, [.int 0, .ref (g 100), .int 0]))])) (va_Qi (fun (r : Int32) (u : Unit) => (r = 0) ∧ True) (fun (_ : Unit) (_ : State) => True) (va_A [] sz)) 0 0 (va_A [] sz) := by
  refine met0 (cc := cX15_isFault) (n := 2) (by decide) (Nat.le_of_ble_eq_true rfl) ?_
  intro p e s m args below meth c hx hb hr hml hown ht hlocks hnm hP0 hD0 hK hZ hsz hz ls hl
  subst hsz
  have hA : ∀ q : Nat, s.heap.size ≤ q → va_A [] s.heap.size q := Anw
  have hAz : ∀ q, va_A [] s.heap.size q → z0 ≤ q := A0z hz
  have hS : va_S (va_A [] s.heap.size) s.heap s.heap [] := va_S.rf
  have hl : lv_has ls 2 [(0, .ref (a 200)), (1, .int p0)] := hl
  refine lv_iload_n hx hb dX15_isFault_0 rfl (lv_at hl 1 rfl) ?_
  refine lv_iconst (v := 0) hx hb dX15_isFault_1 (by decide) ?_
  refine lv_aload_n hx hb dX15_isFault_2 rfl (lv_at hl 0 rfl) ?_
  refine va_get (D := D) (ci := 21) (v := .ref (a 204)) (C := RX15) (T := TX15) (N := 29) hx hb ht in_X15 hown hK.1 (ro0 hP0 hS) 0 rfl rfl 4 (by decide) (ht _ w_368) (fun _ h9 => h9) rfl dX15_isFault_3 ?_
  have hPc : va_P D vwCl [((a 204), .inr (5, [.int 0, .ref (g 100), .int 0]))] _ := (ro0 hP0 hS).sub (ws' := [((a 204), .inr (5, [.int 0, .ref (g 100), .int 0]))]) [1] rfl
  have hDc : va_D (fun q => z0 ≤ q) [((a 204), .inr (5, [.int 0, .ref (g 100), .int 0]))] := hD0.pick (ws' := [((a 204), .inr (5, [.int 0, .ref (g 100), .int 0]))]) [1] (by decide) rfl
  have hFc := AnA (ws := []) hS.1
  refine va_callFi (va_runF (As := []) (rest := [.int 0, .int p0]) (hK.1.1 5 _ rfl).2 ⟨hx, hb, hml, hown, ht⟩ (k_Jx4a65c_size_8abf5 l D g z0 _ a (a 204)) (va_cwF 0 ht (gF w_356 w_358 w_359 w_323 w_357) rfl rfl rfl (hK.2.2.2.1 _ (List.mem_of_getElem? (i := 0) rfl)) (by decide +kernel) (le2 rfl rfl)) ⟨PP.blind, va_recv hK.1 (ro0 hP0 hS) (ci := 5) (q0 := 1) rfl rfl, PP.mk' hK hZ hz hAz hS hPc hDc⟩ rfl rfl hl.1 rfl (lv_room (Nat.le_of_ble_eq_true rfl)) dX15_isFault_6 (le2 rfl rfl)) hS (fun q _ h => hFc q h) hFc (fun r u t H locs ht1 hvm hw hB hz1 hk1 hS => ?_)
  obtain ⟨rfl, hw⟩ := hw
  refine lv_iconst (v := 1) hx hb dX15_isFault_11 (by decide) ?_
  refine lv_isub hx hb dX15_isFault_12 ?_
  refine r_topi (v := (-1)) (by decide) ?_
  have hPc : va_P D vwCl [] _ := (ro0 hP0 hS).sub (ws' := []) [] rfl
  have hDc : va_D (fun q => z0 ≤ q) [] := hD0.pick (ws' := []) [] (by decide) rfl
  have hFc := AnA (ws := []) hS.1
  refine va_calli (va_runS (As := [.int p0, .int 0, .int (-1)]) (rest := []) ⟨hx, hb, hml, hown, ht⟩ (k_X15_isBetween l D g z0 _ a p0) (va_cwS 3 ht (gS w_369 w_371 w_334 w_370) rfl rfl rfl (by decide +kernel) (le2 rfl rfl)) ⟨PP.blind, PP.mk' hK hZ hz hAz hS hPc hDc⟩ rfl rfl hl.1 rfl (lv_room (Nat.le_of_ble_eq_true rfl)) dX15_isFault_13 (le2 rfl rfl)) hS (fun q _ h => hFc q h) hFc (fun r u t H locs ht1 hvm hw hB hz1 hk1 hS => ?_)
  obtain ⟨rfl, hw⟩ := hw
  refine W.widen (k := 0) (n := 0) (Nat.le_of_ble_eq_true rfl) (Nat.le_of_ble_eq_true rfl) ?_
  exact W.zret (v := 0) hx hb hr rfl (fun t ht9 hW9 => ⟨⟨0, (), rfl, ⟨rfl, trivial⟩, trivial⟩, hS.F ht9⟩) hS.2.2 dX15_isFault_16 hlocks
set_option maxHeartbeats 4000000 in
set_option maxRecDepth 100000 in
theorem k_X15_isWrong (l : Launch) (D : va_G) (g : Nat → ClassId) (z0 sz : Nat) (a : Nat → Nat) : Met l yX15_isWrong (.code yX15_isWrong cX15_isWrong 2 (some .boolean) :: TG) (rmk 0 0 0 0) (va_Pc [.ref (a 200), .int 1] (PP D g z0 sz [((a 200), f_m a g)])) (va_Qi (fun (r : Int32) (u : Unit) => (r = 1) ∧ True) (fun (u : Unit) (t : State) => va_P D vwCl [((a 200), .inr (21, [.int 1, .ref (a 201), .ref (a 202), .ref (a 203), .ref (a 204), .ref (a 205), .ref (a 206), .int 0, .int 0, .int 0, .int 0, .ref (a 208), .ref (a 209), .ref (a 210), .ref (a 211), .ref (a 212), .int 4, .int 12, .int (-1), .int 0, .ref (g 200), .ref (a 213), .int 0, .int 97, .ref (a 214), .ref (a 215), .ref (a 207), .null, .int 0]))] t.heap ∧ va_D (va_A [((a 200), f_m a g)] sz) [((a 200), .inr (21, [.int 1, .ref (a 201), .ref (a 202), .ref (a 203), .ref (a 204), .ref (a 205), .ref (a 206), .int 0, .int 0, .int 0, .int 0, .ref (a 208), .ref (a 209), .ref (a 210), .ref (a 211), .ref (a 212), .int 4, .int 12, .int (-1), .int 0, .ref (g 200), .ref (a 213), .int 0, .int 97, .ref (a 214), .ref (a 215), .ref (a 207), .null, .int 0]))]) (va_A [((a 200), f_m a g)] sz)) 0 0 (va_A [((a 200), f_m a g)] sz) := by
  refine met0 (cc := cX15_isWrong) (n := 2) (by decide) (Nat.le_of_ble_eq_true rfl) ?_
  intro p e s m args below meth c hx hb hr hml hown ht hlocks hnm hP0 hD0 hK hZ hsz hz ls hl
  subst hsz
  have hA : ∀ q : Nat, s.heap.size ≤ q → va_A [((a 200), f_m a g)] s.heap.size q := Anw
  have hAz : ∀ q, va_A [((a 200), f_m a g)] s.heap.size q → z0 ≤ q := Awz hz hD0
  have hS : va_S (va_A [((a 200), f_m a g)] s.heap.size) s.heap s.heap [] := va_S.rf
  have hD : va_D (va_A [((a 200), f_m a g)] s.heap.size) [((a 200), f_m a g)] := hD0.self
  have hP : va_P D vwCl [((a 200), f_m a g)] s.heap := hP0
  have hl : lv_has ls 2 [(0, .ref (a 200)), (1, .int 1)] := hl
  refine lv_aload_n hx hb dX15_isWrong_0 rfl (lv_at hl 0 rfl) ?_
  refine lv_iload_n hx hb dX15_isWrong_1 rfl (lv_at hl 1 rfl) ?_
  refine va_put (D := D) (ci := 21) (v := .int 1) (ty := .int) (C := RX15) (T := TX15) (N := 29) hx hb ht in_X15 tyX15 tyX15_ok nmX15 hown hK.1 hP hD hS 0 rfl rfl 0 (by decide) (ht _ w_303) (fun _ h9 => h9) rfl (by decide +kernel) rfl rfl (Nat.le_of_ble_eq_true rfl) dX15_isWrong_2 (fun H locs hP hD hS => ?_)
  have hP : va_P D vwCl [((a 200), .inr (21, [.int 1, .ref (a 201), .ref (a 202), .ref (a 203), .ref (a 204), .ref (a 205), .ref (a 206), .int 0, .int 0, .int 0, .int 0, .ref (a 208), .ref (a 209), .ref (a 210), .ref (a 211), .ref (a 212), .int 4, .int 12, .int (-1), .int 0, .ref (g 200), .ref (a 213), .int 0, .int 97, .ref (a 214), .ref (a 215), .ref (a 207), .null, .int 0]))] H := hP
  have hD : va_D (va_A [((a 200), f_m a g)] s.heap.size) [((a 200), .inr (21, [.int 1, .ref (a 201), .ref (a 202), .ref (a 203), .ref (a 204), .ref (a 205), .ref (a 206), .int 0, .int 0, .int 0, .int 0, .ref (a 208), .ref (a 209), .ref (a 210), .ref (a 211), .ref (a 212), .int 4, .int 12, .int (-1), .int 0, .ref (g 200), .ref (a 213), .int 0, .int 97, .ref (a 214), .ref (a 215), .ref (a 207), .null, .int 0]))] := hD
  refine lv_iload_n hx hb dX15_isWrong_5 rfl (lv_at hl 1 rfl) ?_
  refine lv_if_le (tgt := 13) hx hb dX15_isWrong_6 (by decide) (fun c_1 => ?_) (fun c_1 => ?_)
  · exact absurd c_1 (by decide)
  · refine lv_iconst (v := 1) hx hb dX15_isWrong_9 (by decide) ?_
    refine lv_goto (tgt := 14) hx hb dX15_isWrong_10 (by decide) ?_
    have hP9 := hP.sub (ws' := [((a 200), .inr (21, [.int 1, .ref (a 201), .ref (a 202), .ref (a 203), .ref (a 204), .ref (a 205), .ref (a 206), .int 0, .int 0, .int 0, .int 0, .ref (a 208), .ref (a 209), .ref (a 210), .ref (a 211), .ref (a 212), .int 4, .int 12, .int (-1), .int 0, .ref (g 200), .ref (a 213), .int 0, .int 97, .ref (a 214), .ref (a 215), .ref (a 207), .null, .int 0]))]) [0] rfl
    have hD9 := hD.sub (ws' := [((a 200), .inr (21, [.int 1, .ref (a 201), .ref (a 202), .ref (a 203), .ref (a 204), .ref (a 205), .ref (a 206), .int 0, .int 0, .int 0, .int 0, .ref (a 208), .ref (a 209), .ref (a 210), .ref (a 211), .ref (a 212), .int 4, .int 12, .int (-1), .int 0, .ref (g 200), .ref (a 213), .int 0, .int 97, .ref (a 214), .ref (a 215), .ref (a 207), .null, .int 0]))]) [0] (by decide) rfl
    refine W.widen (k := 0) (n := 0) (Nat.le_of_ble_eq_true rfl) (Nat.le_of_ble_eq_true rfl) ?_
    exact W.zret (v := 1) hx hb hr rfl (fun t ht9 hW9 => ⟨⟨1, (), rfl, ⟨rfl, trivial⟩, ⟨(by rw [ht9]; exact hP9), hD9⟩⟩, hS.F ht9⟩) hS.2.2 dX15_isWrong_14 hlocks
set_option maxHeartbeats 4000000 in
set_option maxRecDepth 100000 in
theorem k_X15_alike (l : Launch) (D : va_G) (g : Nat → ClassId) (z0 sz : Nat) (a : Nat → Nat) (p0 : Int32) : Met l yX15_alike (.code yX15_alike cX15_alike 2 (some .int) :: TG) (rmk 2 0 0 43) (va_Pc [.ref (a 200), .int p0] (PP D g z0 sz [((a 200), f_m a g), ((a 204), .inr (5, [.int 0, .ref (g 100), .int 0]))])) (va_Qi (fun (r : Int32) (u : Unit) => (r = 0) ∧ True) (fun (u : Unit) (t : State) => va_P D vwCl [((a 200), .inr (21, [.int 1, .ref (a 201), .ref (a 202), .ref (a 203), .ref (a 204), .ref (a 205), .ref (a 206), .int 0, .int 0, .int 0, .int 0, .ref (a 208), .ref (a 209), .ref (a 210), .ref (a 211), .ref (a 212), .int 4, .int 12, .int (-1), .int 0, .ref (g 200), .ref (a 213), .int 0, .int 97, .ref (a 214), .ref (a 215), .ref (a 207), .null, .int 0]))] t.heap ∧ va_D (va_A [((a 200), f_m a g), ((a 204), .inr (5, [.int 0, .ref (g 100), .int 0]))] sz) [((a 200), .inr (21, [.int 1, .ref (a 201), .ref (a 202), .ref (a 203), .ref (a 204), .ref (a 205), .ref (a 206), .int 0, .int 0, .int 0, .int 0, .ref (a 208), .ref (a 209), .ref (a 210), .ref (a 211), .ref (a 212), .int 4, .int 12, .int (-1), .int 0, .ref (g 200), .ref (a 213), .int 0, .int 97, .ref (a 214), .ref (a 215), .ref (a 207), .null, .int 0]))]) (va_A [((a 200), f_m a g), ((a 204), .inr (5, [.int 0, .ref (g 100), .int 0]))] sz)) 0 0 (va_A [((a 200), f_m a g), ((a 204), .inr (5, [.int 0, .ref (g 100), .int 0]))] sz) := by
  refine met0 (cc := cX15_alike) (n := 2) (by decide) (Nat.le_of_ble_eq_true rfl) ?_
  intro p e s m args below meth c hx hb hr hml hown ht hlocks hnm hP0 hD0 hK hZ hsz hz ls hl
  subst hsz
  have hA : ∀ q : Nat, s.heap.size ≤ q → va_A [((a 200), f_m a g), ((a 204), .inr (5, [.int 0, .ref (g 100), .int 0]))] s.heap.size q := Anw
  have hAz : ∀ q, va_A [((a 200), f_m a g), ((a 204), .inr (5, [.int 0, .ref (g 100), .int 0]))] s.heap.size q → z0 ≤ q := Awz hz hD0
  have hS : va_S (va_A [((a 200), f_m a g), ((a 204), .inr (5, [.int 0, .ref (g 100), .int 0]))] s.heap.size) s.heap s.heap [] := va_S.rf
  have hD : va_D (va_A [((a 200), f_m a g), ((a 204), .inr (5, [.int 0, .ref (g 100), .int 0]))] s.heap.size) [((a 200), f_m a g), ((a 204), .inr (5, [.int 0, .ref (g 100), .int 0]))] := hD0.self
  have hP : va_P D vwCl [((a 200), f_m a g), ((a 204), .inr (5, [.int 0, .ref (g 100), .int 0]))] s.heap := hP0
  have hl : lv_has ls 2 [(0, .ref (a 200)), (1, .int p0)] := hl
  refine lv_aload_n hx hb dX15_alike_0 rfl (lv_at hl 0 rfl) ?_
  refine lv_aload_n hx hb dX15_alike_1 rfl (lv_at hl 0 rfl) ?_
  refine lv_iload_n hx hb dX15_alike_2 rfl (lv_at hl 1 rfl) ?_
  have hPc : va_P D vwCl [((a 200), f_m a g), ((a 204), .inr (5, [.int 0, .ref (g 100), .int 0]))] _ := hP.sub (ws' := [((a 200), f_m a g), ((a 204), .inr (5, [.int 0, .ref (g 100), .int 0]))]) [0, 1] rfl
  have hDc : va_D (fun q => z0 ≤ q) [((a 200), f_m a g), ((a 204), .inr (5, [.int 0, .ref (g 100), .int 0]))] := (hD.to hAz).pick (ws' := [((a 200), f_m a g), ((a 204), .inr (5, [.int 0, .ref (g 100), .int 0]))]) [0, 1] (by decide) rfl
  have hFc := AnA (ws := [((a 200), f_m a g), ((a 204), .inr (5, [.int 0, .ref (g 100), .int 0]))]) hS.1
  refine va_calli (va_runV (As := [.int p0]) (rest := [.ref (a 200)]) ⟨hx, hb, hml, hown, ht⟩ (k_X15_isFault l D g z0 _ a p0) (cwV 1 ht (gV w_372 w_374 w_375 w_334 w_373) rfl rfl rfl (by decide +kernel) (le2 rfl rfl)) ⟨PP.blind, va_recv hK.1 hP (ci := 21) (q0 := 0) rfl rfl, PP.mk' hK hZ hz hAz hS hPc hDc⟩ rfl rfl hl.1 rfl (lv_room (Nat.le_of_ble_eq_true rfl)) dX15_alike_3 (le2 rfl rfl)) hS (fun q _ h => hFc q h) hFc (fun r u t H locs ht1 hvm hw hB hz1 hk1 hS => ?_)
  obtain ⟨rfl, hw⟩ := hw
  have hP := ro1 hP hk1
  refine lv_if_eq (tgt := 13) hx hb dX15_alike_6 (by decide) (fun c_1 => ?_) (fun c_1 => ?_)
  · refine lv_iconst (v := 1) hx hb dX15_alike_13 (by decide) ?_
    have hPc : va_P D vwCl [((a 200), f_m a g)] _ := hP.sub (ws' := [((a 200), f_m a g)]) [0] rfl
    have hDc : va_D (fun q => z0 ≤ q) [((a 200), f_m a g)] := (hD.to hAz).pick (ws' := [((a 200), f_m a g)]) [0] (by decide) rfl
    have hFc := va_free (wc := [((a 200), f_m a g)]) hD hS hA [0] rfl
    refine va_calli (va_runV (As := [.int 1]) (rest := []) ⟨hx, hb, hml, hown, ht⟩ (k_X15_isWrong l D g z0 _ a) (cwV 1 ht (gV w_376 w_378 w_379 w_334 w_377) rfl rfl rfl (by decide +kernel) (le2 rfl rfl)) ⟨PP.blind, va_recv hK.1 hP (ci := 21) (q0 := 0) rfl rfl, PP.mk' hK hZ hz hAz hS hPc hDc⟩ rfl rfl hl.1 rfl (lv_room (Nat.le_of_ble_eq_true rfl)) dX15_alike_14 (le2 rfl rfl)) hS (fun q _ h => hFc q h) hFc (fun r u t H locs ht1 hvm hw hB hz1 hk1 hS => ?_)
    obtain ⟨rfl, hw⟩ := hw
    obtain ⟨hP1, hD1⟩ := hB
    rw [ht1] at hP1
    obtain ⟨hP, hD⟩ := va_join (wr := [((a 204), .inr (5, [.int 0, .ref (g 100), .int 0]))]) (w1 := [((a 200), .inr (21, [.int 1, .ref (a 201), .ref (a 202), .ref (a 203), .ref (a 204), .ref (a 205), .ref (a 206), .int 0, .int 0, .int 0, .int 0, .ref (a 208), .ref (a 209), .ref (a 210), .ref (a 211), .ref (a 212), .int 4, .int 12, .int (-1), .int 0, .ref (g 200), .ref (a 213), .int 0, .int 97, .ref (a 214), .ref (a 215), .ref (a 207), .null, .int 0]))]) hP hD [0] [1] rfl rfl (by decide) (by decide) hk1 hFc hP1 hD1
    have hP : va_P D vwCl [((a 204), .inr (5, [.int 0, .ref (g 100), .int 0])), ((a 200), .inr (21, [.int 1, .ref (a 201), .ref (a 202), .ref (a 203), .ref (a 204), .ref (a 205), .ref (a 206), .int 0, .int 0, .int 0, .int 0, .ref (a 208), .ref (a 209), .ref (a 210), .ref (a 211), .ref (a 212), .int 4, .int 12, .int (-1), .int 0, .ref (g 200), .ref (a 213), .int 0, .int 97, .ref (a 214), .ref (a 215), .ref (a 207), .null, .int 0]))] H := hP
    have hD : va_D (va_A [((a 200), f_m a g), ((a 204), .inr (5, [.int 0, .ref (g 100), .int 0]))] s.heap.size) [((a 204), .inr (5, [.int 0, .ref (g 100), .int 0])), ((a 200), .inr (21, [.int 1, .ref (a 201), .ref (a 202), .ref (a 203), .ref (a 204), .ref (a 205), .ref (a 206), .int 0, .int 0, .int 0, .int 0, .ref (a 208), .ref (a 209), .ref (a 210), .ref (a 211), .ref (a 212), .int 4, .int 12, .int (-1), .int 0, .ref (g 200), .ref (a 213), .int 0, .int 97, .ref (a 214), .ref (a 215), .ref (a 207), .null, .int 0]))] := hD
    refine lv_if_eq (tgt := 24) hx hb dX15_alike_17 (by decide) (fun c_2 => ?_) (fun c_2 => ?_)
    · exact absurd c_2 (by decide)
    · refine lv_iconst (v := 0) hx hb dX15_alike_20 (by decide) ?_
      refine lv_goto (tgt := 42) hx hb dX15_alike_21 (by decide) ?_
      have hP9 := hP.sub (ws' := [((a 200), .inr (21, [.int 1, .ref (a 201), .ref (a 202), .ref (a 203), .ref (a 204), .ref (a 205), .ref (a 206), .int 0, .int 0, .int 0, .int 0, .ref (a 208), .ref (a 209), .ref (a 210), .ref (a 211), .ref (a 212), .int 4, .int 12, .int (-1), .int 0, .ref (g 200), .ref (a 213), .int 0, .int 97, .ref (a 214), .ref (a 215), .ref (a 207), .null, .int 0]))]) [1] rfl
      have hD9 := hD.sub (ws' := [((a 200), .inr (21, [.int 1, .ref (a 201), .ref (a 202), .ref (a 203), .ref (a 204), .ref (a 205), .ref (a 206), .int 0, .int 0, .int 0, .int 0, .ref (a 208), .ref (a 209), .ref (a 210), .ref (a 211), .ref (a 212), .int 4, .int 12, .int (-1), .int 0, .ref (g 200), .ref (a 213), .int 0, .int 97, .ref (a 214), .ref (a 215), .ref (a 207), .null, .int 0]))]) [1] (by decide) rfl
      refine W.widen (k := 0) (n := 0) (Nat.le_of_ble_eq_true rfl) (Nat.le_of_ble_eq_true rfl) ?_
      exact W.iret (v := 0) hx hb hr (fun t ht9 hW9 => ⟨⟨0, (), rfl, ⟨rfl, trivial⟩, ⟨(by rw [ht9]; exact hP9), hD9⟩⟩, hS.F ht9⟩) hS.2.2 dX15_alike_42 hlocks
  · exact absurd c_1 (by decide)
set_option maxHeartbeats 4000000 in
set_option maxRecDepth 100000 in
theorem k_X15_isWrong_v1 (l : Launch) (D : va_G) (g : Nat → ClassId) (z0 sz : Nat) (a : Nat → Nat) : Met l yX15_isWrong (.code yX15_isWrong cX15_isWrong 2 (some .boolean) :: TG) (rmk 0 0 0 0) (va_Pc [.ref (a 200), .int 0] (PP D g z0 sz [((a 200), f_m a g)])) (va_Qi (fun (r : Int32) (u : Unit) => (r = 0) ∧ True) (fun (u : Unit) (t : State) => va_P D vwCl [((a 200), .inr (21, [.int 0, .ref (a 201), .ref (a 202), .ref (a 203), .ref (a 204), .ref (a 205), .ref (a 206), .int 0, .int 0, .int 0, .int 0, .ref (a 208), .ref (a 209), .ref (a 210), .ref (a 211), .ref (a 212), .int 4, .int 12, .int (-1), .int 0, .ref (g 200), .ref (a 213), .int 0, .int 97, .ref (a 214), .ref (a 215), .ref (a 207), .null, .int 0]))] t.heap ∧ va_D (va_A [((a 200), f_m a g)] sz) [((a 200), .inr (21, [.int 0, .ref (a 201), .ref (a 202), .ref (a 203), .ref (a 204), .ref (a 205), .ref (a 206), .int 0, .int 0, .int 0, .int 0, .ref (a 208), .ref (a 209), .ref (a 210), .ref (a 211), .ref (a 212), .int 4, .int 12, .int (-1), .int 0, .ref (g 200), .ref (a 213), .int 0, .int 97, .ref (a 214), .ref (a 215), .ref (a 207), .null, .int 0]))]) (va_A [((a 200), f_m a g)] sz)) 0 0 (va_A [((a 200), f_m a g)] sz) := by
  refine met0 (cc := cX15_isWrong) (n := 2) (by decide) (Nat.le_of_ble_eq_true rfl) ?_
  intro p e s m args below meth c hx hb hr hml hown ht hlocks hnm hP0 hD0 hK hZ hsz hz ls hl
  subst hsz
  have hA : ∀ q : Nat, s.heap.size ≤ q → va_A [((a 200), f_m a g)] s.heap.size q := Anw
  have hAz : ∀ q, va_A [((a 200), f_m a g)] s.heap.size q → z0 ≤ q := Awz hz hD0
  have hS : va_S (va_A [((a 200), f_m a g)] s.heap.size) s.heap s.heap [] := va_S.rf
  have hD : va_D (va_A [((a 200), f_m a g)] s.heap.size) [((a 200), f_m a g)] := hD0.self
  have hP : va_P D vwCl [((a 200), f_m a g)] s.heap := hP0
  have hl : lv_has ls 2 [(0, .ref (a 200)), (1, .int 0)] := hl
  refine lv_aload_n hx hb dX15_isWrong_0 rfl (lv_at hl 0 rfl) ?_
  refine lv_iload_n hx hb dX15_isWrong_1 rfl (lv_at hl 1 rfl) ?_
  refine va_put (D := D) (ci := 21) (v := .int 0) (ty := .int) (C := RX15) (T := TX15) (N := 29) hx hb ht in_X15 tyX15 tyX15_ok nmX15 hown hK.1 hP hD hS 0 rfl rfl 0 (by decide) (ht _ w_303) (fun _ h9 => h9) rfl (by decide +kernel) rfl rfl (Nat.le_of_ble_eq_true rfl) dX15_isWrong_2 (fun H locs hP hD hS => ?_)
  have hP : va_P D vwCl [((a 200), .inr (21, [.int 0, .ref (a 201), .ref (a 202), .ref (a 203), .ref (a 204), .ref (a 205), .ref (a 206), .int 0, .int 0, .int 0, .int 0, .ref (a 208), .ref (a 209), .ref (a 210), .ref (a 211), .ref (a 212), .int 4, .int 12, .int (-1), .int 0, .ref (g 200), .ref (a 213), .int 0, .int 97, .ref (a 214), .ref (a 215), .ref (a 207), .null, .int 0]))] H := hP
  have hD : va_D (va_A [((a 200), f_m a g)] s.heap.size) [((a 200), .inr (21, [.int 0, .ref (a 201), .ref (a 202), .ref (a 203), .ref (a 204), .ref (a 205), .ref (a 206), .int 0, .int 0, .int 0, .int 0, .ref (a 208), .ref (a 209), .ref (a 210), .ref (a 211), .ref (a 212), .int 4, .int 12, .int (-1), .int 0, .ref (g 200), .ref (a 213), .int 0, .int 97, .ref (a 214), .ref (a 215), .ref (a 207), .null, .int 0]))] := hD
  refine lv_iload_n hx hb dX15_isWrong_5 rfl (lv_at hl 1 rfl) ?_
  refine lv_if_le (tgt := 13) hx hb dX15_isWrong_6 (by decide) (fun c_1 => ?_) (fun c_1 => ?_)
  · refine lv_iconst (v := 0) hx hb dX15_isWrong_13 (by decide) ?_
    have hP9 := hP.sub (ws' := [((a 200), .inr (21, [.int 0, .ref (a 201), .ref (a 202), .ref (a 203), .ref (a 204), .ref (a 205), .ref (a 206), .int 0, .int 0, .int 0, .int 0, .ref (a 208), .ref (a 209), .ref (a 210), .ref (a 211), .ref (a 212), .int 4, .int 12, .int (-1), .int 0, .ref (g 200), .ref (a 213), .int 0, .int 97, .ref (a 214), .ref (a 215), .ref (a 207), .null, .int 0]))]) [0] rfl
    have hD9 := hD.sub (ws' := [((a 200), .inr (21, [.int 0, .ref (a 201), .ref (a 202), .ref (a 203), .ref (a 204), .ref (a 205), .ref (a 206), .int 0, .int 0, .int 0, .int 0, .ref (a 208), .ref (a 209), .ref (a 210), .ref (a 211), .ref (a 212), .int 4, .int 12, .int (-1), .int 0, .ref (g 200), .ref (a 213), .int 0, .int 97, .ref (a 214), .ref (a 215), .ref (a 207), .null, .int 0]))]) [0] (by decide) rfl
    refine W.widen (k := 0) (n := 0) (Nat.le_of_ble_eq_true rfl) (Nat.le_of_ble_eq_true rfl) ?_
    exact W.zret (v := 0) hx hb hr rfl (fun t ht9 hW9 => ⟨⟨0, (), rfl, ⟨rfl, trivial⟩, ⟨(by rw [ht9]; exact hP9), hD9⟩⟩, hS.F ht9⟩) hS.2.2 dX15_isWrong_14 hlocks
  · exact absurd c_1 (by decide)
set_option maxHeartbeats 4000000 in
set_option maxRecDepth 100000 in
theorem k_X15_badWires (l : Launch) (D : va_G) (g : Nat → ClassId) (z0 sz : Nat) (a : Nat → Nat) (p0 : Int32) (hc_p0 : isC p0) : Met l yX15_badWires (.code yX15_badWires cX15_badWires 4 (some .int) :: TG) (rmk 1 0 0 21) (va_Pc [.ref (a 200), .int p0] (PP D g z0 sz [((a 200), f_m a g)])) (va_Qi (fun (r : Int32) (u : Int32) => ((r = 0) ∧ (u = 0) ∧ ((p0 = 99) ∨ ((¬ p0 = 99) ∧ (p0 = 116)))) ∨ ((r = 0) ∧ (u = 1) ∧ ((¬ p0 = 99) ∧ (¬ p0 = 116)))) (fun (u : Int32) (t : State) => va_P D vwCl [((a 200), .inr (21, [.int u, .ref (a 201), .ref (a 202), .ref (a 203), .ref (a 204), .ref (a 205), .ref (a 206), .int 0, .int 0, .int 0, .int 0, .ref (a 208), .ref (a 209), .ref (a 210), .ref (a 211), .ref (a 212), .int 4, .int 12, .int (-1), .int 0, .ref (g 200), .ref (a 213), .int 0, .int 97, .ref (a 214), .ref (a 215), .ref (a 207), .null, .int 0]))] t.heap ∧ va_D (va_A [((a 200), f_m a g)] sz) [((a 200), .inr (21, [.int u, .ref (a 201), .ref (a 202), .ref (a 203), .ref (a 204), .ref (a 205), .ref (a 206), .int 0, .int 0, .int 0, .int 0, .ref (a 208), .ref (a 209), .ref (a 210), .ref (a 211), .ref (a 212), .int 4, .int 12, .int (-1), .int 0, .ref (g 200), .ref (a 213), .int 0, .int 97, .ref (a 214), .ref (a 215), .ref (a 207), .null, .int 0]))]) (va_A [((a 200), f_m a g)] sz)) 0 0 (va_A [((a 200), f_m a g)] sz) := by
  refine met0 (cc := cX15_badWires) (n := 4) (by decide) (Nat.le_of_ble_eq_true rfl) ?_
  intro p e s m args below meth c hx hb hr hml hown ht hlocks hnm hP0 hD0 hK hZ hsz hz ls hl
  subst hsz
  have hA : ∀ q : Nat, s.heap.size ≤ q → va_A [((a 200), f_m a g)] s.heap.size q := Anw
  have hAz : ∀ q, va_A [((a 200), f_m a g)] s.heap.size q → z0 ≤ q := Awz hz hD0
  have hS : va_S (va_A [((a 200), f_m a g)] s.heap.size) s.heap s.heap [] := va_S.rf
  have hD : va_D (va_A [((a 200), f_m a g)] s.heap.size) [((a 200), f_m a g)] := hD0.self
  have hP : va_P D vwCl [((a 200), f_m a g)] s.heap := hP0
  have hl : lv_has ls 4 [(0, .ref (a 200)), (1, .int p0)] := hl
  refine lv_aload_n hx hb dX15_badWires_0 rfl (lv_at hl 0 rfl) ?_
  refine lv_iload_n hx hb dX15_badWires_1 rfl (lv_at hl 1 rfl) ?_
  refine lv_bipush (v := 99) hx hb dX15_badWires_2 (by decide) ?_
  refine lv_icmp_eq (tgt := 17) hx hb dX15_badWires_4 (by decide) (fun c_1 => ?_) (fun c_1 => ?_)
  · refine lv_iconst (v := 0) hx hb dX15_badWires_17 (by decide) ?_
    have hPc : va_P D vwCl [((a 200), f_m a g)] _ := hP.sub (ws' := [((a 200), f_m a g)]) [0] rfl
    have hDc : va_D (fun q => z0 ≤ q) [((a 200), f_m a g)] := (hD.to hAz).pick (ws' := [((a 200), f_m a g)]) [0] (by decide) rfl
    have hFc := va_free (wc := [((a 200), f_m a g)]) hD hS hA [0] rfl
    refine va_calli (va_runV (As := [.int 0]) (rest := []) ⟨hx, hb, hml, hown, ht⟩ (k_X15_isWrong_v1 l D g z0 _ a) (cwV 1 ht (gV w_376 w_378 w_379 w_334 w_377) rfl rfl rfl (by decide +kernel) (le2 rfl rfl)) ⟨PP.blind, va_recv hK.1 hP (ci := 21) (q0 := 0) rfl rfl, PP.mk' hK hZ hz hAz hS hPc hDc⟩ rfl rfl hl.1 rfl (lv_room (Nat.le_of_ble_eq_true rfl)) dX15_badWires_18 (le2 rfl rfl)) hS (fun q _ h => hFc q h) hFc (fun r u t H locs ht1 hvm hw hB hz1 hk1 hS => ?_)
    obtain ⟨rfl, hw⟩ := hw
    obtain ⟨hP1, hD1⟩ := hB
    rw [ht1] at hP1
    obtain ⟨hP, hD⟩ := va_join (wr := []) (w1 := [((a 200), f_m a g)]) hP hD [0] [] rfl rfl (by decide) (by decide) hk1 hFc hP1 hD1
    have hP : va_P D vwCl [((a 200), f_m a g)] H := hP
    have hD : va_D (va_A [((a 200), f_m a g)] s.heap.size) [((a 200), f_m a g)] := hD
    refine lv_if_eq (tgt := 26) hx hb dX15_badWires_21 (by decide) (fun c_2 => ?_) (fun c_2 => ?_)
    · refine lv_iconst (v := 0) hx hb dX15_badWires_26 (by decide) ?_
      refine lv_istore_n (lv' := [(2, .int 0), (0, .ref (a 200)), (1, .int p0)]) hx hb dX15_badWires_27 rfl hl (by decide) rfl (fun ls hl => ?_)
      refine lv_iconst (v := 0) hx hb dX15_badWires_28 (by decide) ?_
      refine lv_istore_n (lv' := [(3, .int 0), (2, .int 0), (0, .ref (a 200)), (1, .int p0)]) hx hb dX15_badWires_29 rfl hl (by decide) rfl (fun ls hl => ?_)
      refine lv_iload_n hx hb dX15_badWires_30 rfl (lv_at hl 0 rfl) ?_
      refine lv_aload_n hx hb dX15_badWires_31 rfl (lv_at hl 2 rfl) ?_
      refine va_get (D := D) (ci := 21) (v := .int 0) (C := RX15) (T := TX15) (N := 29) hx hb ht in_X15 hown hK.1 hP 0 rfl rfl 22 (by decide) (ht _ w_380) (fun _ h9 => h9) rfl dX15_badWires_32 ?_
      refine lv_icmp_ge (tgt := 69) hx hb dX15_badWires_35 (by decide) (fun c_3 => ?_) (fun c_3 => ?_)
      · refine lv_iload_n hx hb dX15_badWires_69 rfl (lv_at hl 1 rfl) ?_
        have hP9 := hP.sub (ws' := [((a 200), f_m a g)]) [0] rfl
        have hD9 := hD.sub (ws' := [((a 200), f_m a g)]) [0] (by decide) rfl
        refine W.widen (k := 0) (n := 0) (Nat.le_of_ble_eq_true rfl) (Nat.le_of_ble_eq_true rfl) ?_
        exact W.iret (v := 0) hx hb hr (fun t ht9 hW9 => ⟨⟨0, 0, rfl, (Or.inl ⟨rfl, rfl, (Or.inl c_1)⟩), ⟨(by rw [ht9]; exact hP9), hD9⟩⟩, hS.F ht9⟩) hS.2.2 dX15_badWires_70 hlocks
      · exact absurd c_3 (by decide)
    · exact absurd c_2 (by decide)
  · refine lv_iload_n hx hb dX15_badWires_7 rfl (lv_at hl 1 rfl) ?_
    refine lv_bipush (v := 116) hx hb dX15_badWires_8 (by decide) ?_
    refine lv_icmp_eq (tgt := 17) hx hb dX15_badWires_10 (by decide) (fun c_4 => ?_) (fun c_4 => ?_)
    · refine lv_iconst (v := 0) hx hb dX15_badWires_17 (by decide) ?_
      have hPc : va_P D vwCl [((a 200), f_m a g)] _ := hP.sub (ws' := [((a 200), f_m a g)]) [0] rfl
      have hDc : va_D (fun q => z0 ≤ q) [((a 200), f_m a g)] := (hD.to hAz).pick (ws' := [((a 200), f_m a g)]) [0] (by decide) rfl
      have hFc := va_free (wc := [((a 200), f_m a g)]) hD hS hA [0] rfl
      refine va_calli (va_runV (As := [.int 0]) (rest := []) ⟨hx, hb, hml, hown, ht⟩ (k_X15_isWrong_v1 l D g z0 _ a) (cwV 1 ht (gV w_376 w_378 w_379 w_334 w_377) rfl rfl rfl (by decide +kernel) (le2 rfl rfl)) ⟨PP.blind, va_recv hK.1 hP (ci := 21) (q0 := 0) rfl rfl, PP.mk' hK hZ hz hAz hS hPc hDc⟩ rfl rfl hl.1 rfl (lv_room (Nat.le_of_ble_eq_true rfl)) dX15_badWires_18 (le2 rfl rfl)) hS (fun q _ h => hFc q h) hFc (fun r u t H locs ht1 hvm hw hB hz1 hk1 hS => ?_)
      obtain ⟨rfl, hw⟩ := hw
      obtain ⟨hP1, hD1⟩ := hB
      rw [ht1] at hP1
      obtain ⟨hP, hD⟩ := va_join (wr := []) (w1 := [((a 200), f_m a g)]) hP hD [0] [] rfl rfl (by decide) (by decide) hk1 hFc hP1 hD1
      have hP : va_P D vwCl [((a 200), f_m a g)] H := hP
      have hD : va_D (va_A [((a 200), f_m a g)] s.heap.size) [((a 200), f_m a g)] := hD
      refine lv_if_eq (tgt := 26) hx hb dX15_badWires_21 (by decide) (fun c_5 => ?_) (fun c_5 => ?_)
      · refine lv_iconst (v := 0) hx hb dX15_badWires_26 (by decide) ?_
        refine lv_istore_n (lv' := [(2, .int 0), (0, .ref (a 200)), (1, .int p0)]) hx hb dX15_badWires_27 rfl hl (by decide) rfl (fun ls hl => ?_)
        refine lv_iconst (v := 0) hx hb dX15_badWires_28 (by decide) ?_
        refine lv_istore_n (lv' := [(3, .int 0), (2, .int 0), (0, .ref (a 200)), (1, .int p0)]) hx hb dX15_badWires_29 rfl hl (by decide) rfl (fun ls hl => ?_)
        refine lv_iload_n hx hb dX15_badWires_30 rfl (lv_at hl 0 rfl) ?_
        refine lv_aload_n hx hb dX15_badWires_31 rfl (lv_at hl 2 rfl) ?_
        refine va_get (D := D) (ci := 21) (v := .int 0) (C := RX15) (T := TX15) (N := 29) hx hb ht in_X15 hown hK.1 hP 0 rfl rfl 22 (by decide) (ht _ w_380) (fun _ h9 => h9) rfl dX15_badWires_32 ?_
        refine lv_icmp_ge (tgt := 69) hx hb dX15_badWires_35 (by decide) (fun c_6 => ?_) (fun c_6 => ?_)
        · refine lv_iload_n hx hb dX15_badWires_69 rfl (lv_at hl 1 rfl) ?_
          have hP9 := hP.sub (ws' := [((a 200), f_m a g)]) [0] rfl
          have hD9 := hD.sub (ws' := [((a 200), f_m a g)]) [0] (by decide) rfl
          refine W.widen (k := 0) (n := 0) (Nat.le_of_ble_eq_true rfl) (Nat.le_of_ble_eq_true rfl) ?_
          exact W.iret (v := 0) hx hb hr (fun t ht9 hW9 => ⟨⟨0, 0, rfl, (Or.inl ⟨rfl, rfl, (Or.inr ⟨c_1, c_4⟩)⟩), ⟨(by rw [ht9]; exact hP9), hD9⟩⟩, hS.F ht9⟩) hS.2.2 dX15_badWires_70 hlocks
        · exact absurd c_6 (by decide)
      · exact absurd c_5 (by decide)
    · refine lv_iconst (v := 1) hx hb dX15_badWires_13 (by decide) ?_
      refine lv_goto (tgt := 18) hx hb dX15_badWires_14 (by decide) ?_
      have hPc : va_P D vwCl [((a 200), f_m a g)] _ := hP.sub (ws' := [((a 200), f_m a g)]) [0] rfl
      have hDc : va_D (fun q => z0 ≤ q) [((a 200), f_m a g)] := (hD.to hAz).pick (ws' := [((a 200), f_m a g)]) [0] (by decide) rfl
      have hFc := va_free (wc := [((a 200), f_m a g)]) hD hS hA [0] rfl
      refine va_calli (va_runV (As := [.int 1]) (rest := []) ⟨hx, hb, hml, hown, ht⟩ (k_X15_isWrong l D g z0 _ a) (cwV 1 ht (gV w_376 w_378 w_379 w_334 w_377) rfl rfl rfl (by decide +kernel) (le2 rfl rfl)) ⟨PP.blind, va_recv hK.1 hP (ci := 21) (q0 := 0) rfl rfl, PP.mk' hK hZ hz hAz hS hPc hDc⟩ rfl rfl hl.1 rfl (lv_room (Nat.le_of_ble_eq_true rfl)) dX15_badWires_18 (le2 rfl rfl)) hS (fun q _ h => hFc q h) hFc (fun r u t H locs ht1 hvm hw hB hz1 hk1 hS => ?_)
      obtain ⟨rfl, hw⟩ := hw
      obtain ⟨hP1, hD1⟩ := hB
      rw [ht1] at hP1
      obtain ⟨hP, hD⟩ := va_join (wr := []) (w1 := [((a 200), .inr (21, [.int 1, .ref (a 201), .ref (a 202), .ref (a 203), .ref (a 204), .ref (a 205), .ref (a 206), .int 0, .int 0, .int 0, .int 0, .ref (a 208), .ref (a 209), .ref (a 210), .ref (a 211), .ref (a 212), .int 4, .int 12, .int (-1), .int 0, .ref (g 200), .ref (a 213), .int 0, .int 97, .ref (a 214), .ref (a 215), .ref (a 207), .null, .int 0]))]) hP hD [0] [] rfl rfl (by decide) (by decide) hk1 hFc hP1 hD1
      have hP : va_P D vwCl [((a 200), .inr (21, [.int 1, .ref (a 201), .ref (a 202), .ref (a 203), .ref (a 204), .ref (a 205), .ref (a 206), .int 0, .int 0, .int 0, .int 0, .ref (a 208), .ref (a 209), .ref (a 210), .ref (a 211), .ref (a 212), .int 4, .int 12, .int (-1), .int 0, .ref (g 200), .ref (a 213), .int 0, .int 97, .ref (a 214), .ref (a 215), .ref (a 207), .null, .int 0]))] H := hP
      have hD : va_D (va_A [((a 200), f_m a g)] s.heap.size) [((a 200), .inr (21, [.int 1, .ref (a 201), .ref (a 202), .ref (a 203), .ref (a 204), .ref (a 205), .ref (a 206), .int 0, .int 0, .int 0, .int 0, .ref (a 208), .ref (a 209), .ref (a 210), .ref (a 211), .ref (a 212), .int 4, .int 12, .int (-1), .int 0, .ref (g 200), .ref (a 213), .int 0, .int 97, .ref (a 214), .ref (a 215), .ref (a 207), .null, .int 0]))] := hD
      refine lv_if_eq (tgt := 26) hx hb dX15_badWires_21 (by decide) (fun c_7 => ?_) (fun c_7 => ?_)
      · exact absurd c_7 (by decide)
      · refine lv_iconst (v := 0) hx hb dX15_badWires_24 (by decide) ?_
        have hP9 := hP.sub (ws' := [((a 200), .inr (21, [.int 1, .ref (a 201), .ref (a 202), .ref (a 203), .ref (a 204), .ref (a 205), .ref (a 206), .int 0, .int 0, .int 0, .int 0, .ref (a 208), .ref (a 209), .ref (a 210), .ref (a 211), .ref (a 212), .int 4, .int 12, .int (-1), .int 0, .ref (g 200), .ref (a 213), .int 0, .int 97, .ref (a 214), .ref (a 215), .ref (a 207), .null, .int 0]))]) [0] rfl
        have hD9 := hD.sub (ws' := [((a 200), .inr (21, [.int 1, .ref (a 201), .ref (a 202), .ref (a 203), .ref (a 204), .ref (a 205), .ref (a 206), .int 0, .int 0, .int 0, .int 0, .ref (a 208), .ref (a 209), .ref (a 210), .ref (a 211), .ref (a 212), .int 4, .int 12, .int (-1), .int 0, .ref (g 200), .ref (a 213), .int 0, .int 97, .ref (a 214), .ref (a 215), .ref (a 207), .null, .int 0]))]) [0] (by decide) rfl
        refine W.widen (k := 0) (n := 0) (Nat.le_of_ble_eq_true rfl) (Nat.le_of_ble_eq_true rfl) ?_
        exact W.iret (v := 0) hx hb hr (fun t ht9 hW9 => ⟨⟨0, 1, rfl, (Or.inr ⟨rfl, rfl, ⟨c_1, c_4⟩⟩), ⟨(by rw [ht9]; exact hP9), hD9⟩⟩, hS.F ht9⟩) hS.2.2 dX15_badWires_25 hlocks
set_option maxHeartbeats 4000000 in
set_option maxRecDepth 100000 in
theorem k_X15_begins (l : Launch) (D : va_G) (g : Nat → ClassId) (z0 sz : Nat) (a : Nat → Nat) (p0 : Int32) (p1 : Int32) (p2 : Int32) : Met l yX15_begins (.code yX15_begins cX15_begins 4 (some .int) :: TG) (rmk 1 0 0 22) (va_Pc [.ref (a 200), .int p0, .int p1, .int p2] (PP D g z0 sz [((a 200), f_m a g), ((a 207), .inr (5, [.int 0, .ref (g 100), .int 0]))])) (va_Qi (fun (r : Int32) (u : Unit) => (r = 0) ∧ True) (fun (u : Unit) (t : State) => va_P D vwCl [((a 200), .inr (21, [.int 1, .ref (a 201), .ref (a 202), .ref (a 203), .ref (a 204), .ref (a 205), .ref (a 206), .int 0, .int 0, .int 0, .int 0, .ref (a 208), .ref (a 209), .ref (a 210), .ref (a 211), .ref (a 212), .int 4, .int 12, .int (-1), .int 0, .ref (g 200), .ref (a 213), .int 0, .int 97, .ref (a 214), .ref (a 215), .ref (a 207), .null, .int 0]))] t.heap ∧ va_D (va_A [((a 200), f_m a g), ((a 207), .inr (5, [.int 0, .ref (g 100), .int 0]))] sz) [((a 200), .inr (21, [.int 1, .ref (a 201), .ref (a 202), .ref (a 203), .ref (a 204), .ref (a 205), .ref (a 206), .int 0, .int 0, .int 0, .int 0, .ref (a 208), .ref (a 209), .ref (a 210), .ref (a 211), .ref (a 212), .int 4, .int 12, .int (-1), .int 0, .ref (g 200), .ref (a 213), .int 0, .int 97, .ref (a 214), .ref (a 215), .ref (a 207), .null, .int 0]))]) (va_A [((a 200), f_m a g), ((a 207), .inr (5, [.int 0, .ref (g 100), .int 0]))] sz)) 0 0 (va_A [((a 200), f_m a g), ((a 207), .inr (5, [.int 0, .ref (g 100), .int 0]))] sz) := by
  refine met0 (cc := cX15_begins) (n := 4) (by decide) (Nat.le_of_ble_eq_true rfl) ?_
  intro p e s m args below meth c hx hb hr hml hown ht hlocks hnm hP0 hD0 hK hZ hsz hz ls hl
  subst hsz
  have hA : ∀ q : Nat, s.heap.size ≤ q → va_A [((a 200), f_m a g), ((a 207), .inr (5, [.int 0, .ref (g 100), .int 0]))] s.heap.size q := Anw
  have hAz : ∀ q, va_A [((a 200), f_m a g), ((a 207), .inr (5, [.int 0, .ref (g 100), .int 0]))] s.heap.size q → z0 ≤ q := Awz hz hD0
  have hS : va_S (va_A [((a 200), f_m a g), ((a 207), .inr (5, [.int 0, .ref (g 100), .int 0]))] s.heap.size) s.heap s.heap [] := va_S.rf
  have hD : va_D (va_A [((a 200), f_m a g), ((a 207), .inr (5, [.int 0, .ref (g 100), .int 0]))] s.heap.size) [((a 200), f_m a g), ((a 207), .inr (5, [.int 0, .ref (g 100), .int 0]))] := hD0.self
  have hP : va_P D vwCl [((a 200), f_m a g), ((a 207), .inr (5, [.int 0, .ref (g 100), .int 0]))] s.heap := hP0
  have hl : lv_has ls 4 [(0, .ref (a 200)), (1, .int p0), (2, .int p1), (3, .int p2)] := hl
  refine lv_aload_n hx hb dX15_begins_0 rfl (lv_at hl 0 rfl) ?_
  refine lv_iload_n hx hb dX15_begins_1 rfl (lv_at hl 3 rfl) ?_
  refine lv_iconst (v := 0) hx hb dX15_begins_2 (by decide) ?_
  refine lv_aload_n hx hb dX15_begins_3 rfl (lv_at hl 0 rfl) ?_
  refine va_get (D := D) (ci := 21) (v := .ref (a 207)) (C := RX15) (T := TX15) (N := 29) hx hb ht in_X15 hown hK.1 hP 0 rfl rfl 26 (by decide) (ht _ w_381) (fun _ h9 => h9) rfl dX15_begins_4 ?_
  have hPc : va_P D vwCl [((a 207), .inr (5, [.int 0, .ref (g 100), .int 0]))] _ := hP.sub (ws' := [((a 207), .inr (5, [.int 0, .ref (g 100), .int 0]))]) [1] rfl
  have hDc : va_D (fun q => z0 ≤ q) [((a 207), .inr (5, [.int 0, .ref (g 100), .int 0]))] := (hD.to hAz).pick (ws' := [((a 207), .inr (5, [.int 0, .ref (g 100), .int 0]))]) [1] (by decide) rfl
  have hFc := AnA (ws := [((a 200), f_m a g), ((a 207), .inr (5, [.int 0, .ref (g 100), .int 0]))]) hS.1
  refine va_callFi (va_runF (As := []) (rest := [.int 0, .int p2, .ref (a 200)]) (hK.1.1 5 _ rfl).2 ⟨hx, hb, hml, hown, ht⟩ (k_Jx4a65c_size_8abf5 l D g z0 _ a (a 207)) (va_cwF 0 ht (gF w_356 w_358 w_359 w_323 w_357) rfl rfl rfl (hK.2.2.2.1 _ (List.mem_of_getElem? (i := 0) rfl)) (by decide +kernel) (le2 rfl rfl)) ⟨PP.blind, va_recv hK.1 hP (ci := 5) (q0 := 1) rfl rfl, PP.mk' hK hZ hz hAz hS hPc hDc⟩ rfl rfl hl.1 rfl (lv_room (Nat.le_of_ble_eq_true rfl)) dX15_begins_7 (le2 rfl rfl)) hS (fun q _ h => hFc q h) hFc (fun r u t H locs ht1 hvm hw hB hz1 hk1 hS => ?_)
  obtain ⟨rfl, hw⟩ := hw
  have hP := ro1 hP hk1
  refine lv_iconst (v := 1) hx hb dX15_begins_12 (by decide) ?_
  refine lv_isub hx hb dX15_begins_13 ?_
  refine r_topi (v := (-1)) (by decide) ?_
  have hPc : va_P D vwCl [] _ := hP.sub (ws' := []) [] rfl
  have hDc : va_D (fun q => z0 ≤ q) [] := (hD.to hAz).pick (ws' := []) [] (by decide) rfl
  have hFc := AnA (ws := [((a 200), f_m a g), ((a 207), .inr (5, [.int 0, .ref (g 100), .int 0]))]) hS.1
  refine va_calli (va_runS (As := [.int p2, .int 0, .int (-1)]) (rest := [.ref (a 200)]) ⟨hx, hb, hml, hown, ht⟩ (k_X15_isBetween l D g z0 _ a p2) (va_cwS 3 ht (gS w_369 w_371 w_334 w_370) rfl rfl rfl (by decide +kernel) (le2 rfl rfl)) ⟨PP.blind, PP.mk' hK hZ hz hAz hS hPc hDc⟩ rfl rfl hl.1 rfl (lv_room (Nat.le_of_ble_eq_true rfl)) dX15_begins_14 (le2 rfl rfl)) hS (fun q _ h => hFc q h) hFc (fun r u t H locs ht1 hvm hw hB hz1 hk1 hS => ?_)
  obtain ⟨rfl, hw⟩ := hw
  have hP := ro1 hP hk1
  refine lv_if_ne (tgt := 24) hx hb dX15_begins_17 (by decide) (fun c_1 => ?_) (fun c_1 => ?_)
  · exact absurd c_1 (by decide)
  · refine lv_iconst (v := 1) hx hb dX15_begins_20 (by decide) ?_
    refine lv_goto (tgt := 38) hx hb dX15_begins_21 (by decide) ?_
    have hPc : va_P D vwCl [((a 200), f_m a g)] _ := hP.sub (ws' := [((a 200), f_m a g)]) [0] rfl
    have hDc : va_D (fun q => z0 ≤ q) [((a 200), f_m a g)] := (hD.to hAz).pick (ws' := [((a 200), f_m a g)]) [0] (by decide) rfl
    have hFc := va_free (wc := [((a 200), f_m a g)]) hD hS hA [0] rfl
    refine va_calli (va_runV (As := [.int 1]) (rest := []) ⟨hx, hb, hml, hown, ht⟩ (k_X15_isWrong l D g z0 _ a) (cwV 1 ht (gV w_376 w_378 w_379 w_334 w_377) rfl rfl rfl (by decide +kernel) (le2 rfl rfl)) ⟨PP.blind, va_recv hK.1 hP (ci := 21) (q0 := 0) rfl rfl, PP.mk' hK hZ hz hAz hS hPc hDc⟩ rfl rfl hl.1 rfl (lv_room (Nat.le_of_ble_eq_true rfl)) dX15_begins_38 (le2 rfl rfl)) hS (fun q _ h => hFc q h) hFc (fun r u t H locs ht1 hvm hw hB hz1 hk1 hS => ?_)
    obtain ⟨rfl, hw⟩ := hw
    obtain ⟨hP1, hD1⟩ := hB
    rw [ht1] at hP1
    obtain ⟨hP, hD⟩ := va_join (wr := [((a 207), .inr (5, [.int 0, .ref (g 100), .int 0]))]) (w1 := [((a 200), .inr (21, [.int 1, .ref (a 201), .ref (a 202), .ref (a 203), .ref (a 204), .ref (a 205), .ref (a 206), .int 0, .int 0, .int 0, .int 0, .ref (a 208), .ref (a 209), .ref (a 210), .ref (a 211), .ref (a 212), .int 4, .int 12, .int (-1), .int 0, .ref (g 200), .ref (a 213), .int 0, .int 97, .ref (a 214), .ref (a 215), .ref (a 207), .null, .int 0]))]) hP hD [0] [1] rfl rfl (by decide) (by decide) hk1 hFc hP1 hD1
    have hP : va_P D vwCl [((a 207), .inr (5, [.int 0, .ref (g 100), .int 0])), ((a 200), .inr (21, [.int 1, .ref (a 201), .ref (a 202), .ref (a 203), .ref (a 204), .ref (a 205), .ref (a 206), .int 0, .int 0, .int 0, .int 0, .ref (a 208), .ref (a 209), .ref (a 210), .ref (a 211), .ref (a 212), .int 4, .int 12, .int (-1), .int 0, .ref (g 200), .ref (a 213), .int 0, .int 97, .ref (a 214), .ref (a 215), .ref (a 207), .null, .int 0]))] H := hP
    have hD : va_D (va_A [((a 200), f_m a g), ((a 207), .inr (5, [.int 0, .ref (g 100), .int 0]))] s.heap.size) [((a 207), .inr (5, [.int 0, .ref (g 100), .int 0])), ((a 200), .inr (21, [.int 1, .ref (a 201), .ref (a 202), .ref (a 203), .ref (a 204), .ref (a 205), .ref (a 206), .int 0, .int 0, .int 0, .int 0, .ref (a 208), .ref (a 209), .ref (a 210), .ref (a 211), .ref (a 212), .int 4, .int 12, .int (-1), .int 0, .ref (g 200), .ref (a 213), .int 0, .int 97, .ref (a 214), .ref (a 215), .ref (a 207), .null, .int 0]))] := hD
    refine lv_if_eq (tgt := 46) hx hb dX15_begins_41 (by decide) (fun c_2 => ?_) (fun c_2 => ?_)
    · exact absurd c_2 (by decide)
    · refine lv_iconst (v := 0) hx hb dX15_begins_44 (by decide) ?_
      have hP9 := hP.sub (ws' := [((a 200), .inr (21, [.int 1, .ref (a 201), .ref (a 202), .ref (a 203), .ref (a 204), .ref (a 205), .ref (a 206), .int 0, .int 0, .int 0, .int 0, .ref (a 208), .ref (a 209), .ref (a 210), .ref (a 211), .ref (a 212), .int 4, .int 12, .int (-1), .int 0, .ref (g 200), .ref (a 213), .int 0, .int 97, .ref (a 214), .ref (a 215), .ref (a 207), .null, .int 0]))]) [1] rfl
      have hD9 := hD.sub (ws' := [((a 200), .inr (21, [.int 1, .ref (a 201), .ref (a 202), .ref (a 203), .ref (a 204), .ref (a 205), .ref (a 206), .int 0, .int 0, .int 0, .int 0, .ref (a 208), .ref (a 209), .ref (a 210), .ref (a 211), .ref (a 212), .int 4, .int 12, .int (-1), .int 0, .ref (g 200), .ref (a 213), .int 0, .int 97, .ref (a 214), .ref (a 215), .ref (a 207), .null, .int 0]))]) [1] (by decide) rfl
      refine W.widen (k := 0) (n := 0) (Nat.le_of_ble_eq_true rfl) (Nat.le_of_ble_eq_true rfl) ?_
      exact W.iret (v := 0) hx hb hr (fun t ht9 hW9 => ⟨⟨0, (), rfl, ⟨rfl, trivial⟩, ⟨(by rw [ht9]; exact hP9), hD9⟩⟩, hS.F ht9⟩) hS.2.2 dX15_begins_45 hlocks
set_option maxHeartbeats 4000000 in
set_option maxRecDepth 100000 in
theorem k_X15_isBetween_v1 (l : Launch) (D : va_G) (g : Nat → ClassId) (z0 sz : Nat) (a : Nat → Nat) (p0 : Int32) : Met l yX15_isBetween (.code yX15_isBetween cX15_isBetween 3 (some .boolean) :: TG) (rmk 0 0 0 0) (va_Pc [.int p0, .int (-1), .int (-1)] (PP D g z0 sz [])) (va_Qi (fun (r : Int32) (u : Unit) => ((r = 0) ∧ ((p0 < (-1)) ∨ ((¬ p0 < (-1)) ∧ (((-1) : Int32) < p0)))) ∨ ((r = 1) ∧ ((¬ p0 < (-1)) ∧ (¬ ((-1) : Int32) < p0)))) (fun (_ : Unit) (_ : State) => True) (va_A [] sz)) 0 0 (va_A [] sz) := by
  refine met0 (cc := cX15_isBetween) (n := 3) (by decide) (Nat.le_of_ble_eq_true rfl) ?_
  intro p e s m args below meth c hx hb hr hml hown ht hlocks hnm hP0 hD0 hK hZ hsz hz ls hl
  subst hsz
  have hA : ∀ q : Nat, s.heap.size ≤ q → va_A [] s.heap.size q := Anw
  have hAz : ∀ q, va_A [] s.heap.size q → z0 ≤ q := A0z hz
  have hS : va_S (va_A [] s.heap.size) s.heap s.heap [] := va_S.rf
  have hl : lv_has ls 3 [(0, .int p0), (1, .int (-1)), (2, .int (-1))] := hl
  refine lv_iload_n hx hb dX15_isBetween_0 rfl (lv_at hl 1 rfl) ?_
  refine lv_iload_n hx hb dX15_isBetween_1 rfl (lv_at hl 0 rfl) ?_
  refine lv_icmp_gt (tgt := 14) hx hb dX15_isBetween_2 (by decide) (fun c_1 => ?_) (fun c_1 => ?_)
  · refine lv_iconst (v := 0) hx hb dX15_isBetween_14 (by decide) ?_
    refine W.widen (k := 0) (n := 0) (Nat.le_of_ble_eq_true rfl) (Nat.le_of_ble_eq_true rfl) ?_
    exact W.zret (v := 0) hx hb hr rfl (fun t ht9 hW9 => ⟨⟨0, (), rfl, (Or.inl ⟨rfl, (Or.inl c_1)⟩), trivial⟩, hS.F ht9⟩) hS.2.2 dX15_isBetween_15 hlocks
  · refine lv_iload_n hx hb dX15_isBetween_5 rfl (lv_at hl 0 rfl) ?_
    refine lv_iload_n hx hb dX15_isBetween_6 rfl (lv_at hl 2 rfl) ?_
    refine lv_icmp_gt (tgt := 14) hx hb dX15_isBetween_7 (by decide) (fun c_2 => ?_) (fun c_2 => ?_)
    · refine lv_iconst (v := 0) hx hb dX15_isBetween_14 (by decide) ?_
      refine W.widen (k := 0) (n := 0) (Nat.le_of_ble_eq_true rfl) (Nat.le_of_ble_eq_true rfl) ?_
      exact W.zret (v := 0) hx hb hr rfl (fun t ht9 hW9 => ⟨⟨0, (), rfl, (Or.inl ⟨rfl, (Or.inr ⟨c_1, c_2⟩)⟩), trivial⟩, hS.F ht9⟩) hS.2.2 dX15_isBetween_15 hlocks
    · refine lv_iconst (v := 1) hx hb dX15_isBetween_10 (by decide) ?_
      refine lv_goto (tgt := 15) hx hb dX15_isBetween_11 (by decide) ?_
      refine W.widen (k := 0) (n := 0) (Nat.le_of_ble_eq_true rfl) (Nat.le_of_ble_eq_true rfl) ?_
      exact W.zret (v := 1) hx hb hr rfl (fun t ht9 hW9 => ⟨⟨1, (), rfl, (Or.inr ⟨rfl, ⟨c_1, c_2⟩⟩), trivial⟩, hS.F ht9⟩) hS.2.2 dX15_isBetween_15 hlocks
set_option maxHeartbeats 4000000 in
set_option maxRecDepth 100000 in
theorem k_X15_isBetween_v2 (l : Launch) (D : va_G) (g : Nat → ClassId) (z0 sz : Nat) (a : Nat → Nat) (p0 : Int32) : Met l yX15_isBetween (.code yX15_isBetween cX15_isBetween 3 (some .boolean) :: TG) (rmk 0 0 0 0) (va_Pc [.int p0, .int 0, .int 1] (PP D g z0 sz [])) (va_Qi (fun (r : Int32) (u : Unit) => ((r = 0) ∧ ((p0 < 0) ∨ ((¬ p0 < 0) ∧ ((1 : Int32) < p0)))) ∨ ((r = 1) ∧ ((¬ p0 < 0) ∧ (¬ (1 : Int32) < p0)))) (fun (_ : Unit) (_ : State) => True) (va_A [] sz)) 0 0 (va_A [] sz) := by
  refine met0 (cc := cX15_isBetween) (n := 3) (by decide) (Nat.le_of_ble_eq_true rfl) ?_
  intro p e s m args below meth c hx hb hr hml hown ht hlocks hnm hP0 hD0 hK hZ hsz hz ls hl
  subst hsz
  have hA : ∀ q : Nat, s.heap.size ≤ q → va_A [] s.heap.size q := Anw
  have hAz : ∀ q, va_A [] s.heap.size q → z0 ≤ q := A0z hz
  have hS : va_S (va_A [] s.heap.size) s.heap s.heap [] := va_S.rf
  have hl : lv_has ls 3 [(0, .int p0), (1, .int 0), (2, .int 1)] := hl
  refine lv_iload_n hx hb dX15_isBetween_0 rfl (lv_at hl 1 rfl) ?_
  refine lv_iload_n hx hb dX15_isBetween_1 rfl (lv_at hl 0 rfl) ?_
  refine lv_icmp_gt (tgt := 14) hx hb dX15_isBetween_2 (by decide) (fun c_1 => ?_) (fun c_1 => ?_)
  · refine lv_iconst (v := 0) hx hb dX15_isBetween_14 (by decide) ?_
    refine W.widen (k := 0) (n := 0) (Nat.le_of_ble_eq_true rfl) (Nat.le_of_ble_eq_true rfl) ?_
    exact W.zret (v := 0) hx hb hr rfl (fun t ht9 hW9 => ⟨⟨0, (), rfl, (Or.inl ⟨rfl, (Or.inl c_1)⟩), trivial⟩, hS.F ht9⟩) hS.2.2 dX15_isBetween_15 hlocks
  · refine lv_iload_n hx hb dX15_isBetween_5 rfl (lv_at hl 0 rfl) ?_
    refine lv_iload_n hx hb dX15_isBetween_6 rfl (lv_at hl 2 rfl) ?_
    refine lv_icmp_gt (tgt := 14) hx hb dX15_isBetween_7 (by decide) (fun c_2 => ?_) (fun c_2 => ?_)
    · refine lv_iconst (v := 0) hx hb dX15_isBetween_14 (by decide) ?_
      refine W.widen (k := 0) (n := 0) (Nat.le_of_ble_eq_true rfl) (Nat.le_of_ble_eq_true rfl) ?_
      exact W.zret (v := 0) hx hb hr rfl (fun t ht9 hW9 => ⟨⟨0, (), rfl, (Or.inl ⟨rfl, (Or.inr ⟨c_1, c_2⟩)⟩), trivial⟩, hS.F ht9⟩) hS.2.2 dX15_isBetween_15 hlocks
    · refine lv_iconst (v := 1) hx hb dX15_isBetween_10 (by decide) ?_
      refine lv_goto (tgt := 15) hx hb dX15_isBetween_11 (by decide) ?_
      refine W.widen (k := 0) (n := 0) (Nat.le_of_ble_eq_true rfl) (Nat.le_of_ble_eq_true rfl) ?_
      exact W.zret (v := 1) hx hb hr rfl (fun t ht9 hW9 => ⟨⟨1, (), rfl, (Or.inr ⟨rfl, ⟨c_1, c_2⟩⟩), trivial⟩, hS.F ht9⟩) hS.2.2 dX15_isBetween_15 hlocks
set_option maxHeartbeats 4000000 in
set_option maxRecDepth 100000 in
theorem k_X15_isWrong_v2 (l : Launch) (D : va_G) (g : Nat → ClassId) (z0 sz : Nat) (a : Nat → Nat) : Met l yX15_isWrong (.code yX15_isWrong cX15_isWrong 2 (some .boolean) :: TG) (rmk 0 0 0 0) (va_Pc [.ref (a 200), .int 2] (PP D g z0 sz [((a 200), f_m a g)])) (va_Qi (fun (r : Int32) (u : Unit) => (r = 1) ∧ True) (fun (u : Unit) (t : State) => va_P D vwCl [((a 200), .inr (21, [.int 2, .ref (a 201), .ref (a 202), .ref (a 203), .ref (a 204), .ref (a 205), .ref (a 206), .int 0, .int 0, .int 0, .int 0, .ref (a 208), .ref (a 209), .ref (a 210), .ref (a 211), .ref (a 212), .int 4, .int 12, .int (-1), .int 0, .ref (g 200), .ref (a 213), .int 0, .int 97, .ref (a 214), .ref (a 215), .ref (a 207), .null, .int 0]))] t.heap ∧ va_D (va_A [((a 200), f_m a g)] sz) [((a 200), .inr (21, [.int 2, .ref (a 201), .ref (a 202), .ref (a 203), .ref (a 204), .ref (a 205), .ref (a 206), .int 0, .int 0, .int 0, .int 0, .ref (a 208), .ref (a 209), .ref (a 210), .ref (a 211), .ref (a 212), .int 4, .int 12, .int (-1), .int 0, .ref (g 200), .ref (a 213), .int 0, .int 97, .ref (a 214), .ref (a 215), .ref (a 207), .null, .int 0]))]) (va_A [((a 200), f_m a g)] sz)) 0 0 (va_A [((a 200), f_m a g)] sz) := by
  refine met0 (cc := cX15_isWrong) (n := 2) (by decide) (Nat.le_of_ble_eq_true rfl) ?_
  intro p e s m args below meth c hx hb hr hml hown ht hlocks hnm hP0 hD0 hK hZ hsz hz ls hl
  subst hsz
  have hA : ∀ q : Nat, s.heap.size ≤ q → va_A [((a 200), f_m a g)] s.heap.size q := Anw
  have hAz : ∀ q, va_A [((a 200), f_m a g)] s.heap.size q → z0 ≤ q := Awz hz hD0
  have hS : va_S (va_A [((a 200), f_m a g)] s.heap.size) s.heap s.heap [] := va_S.rf
  have hD : va_D (va_A [((a 200), f_m a g)] s.heap.size) [((a 200), f_m a g)] := hD0.self
  have hP : va_P D vwCl [((a 200), f_m a g)] s.heap := hP0
  have hl : lv_has ls 2 [(0, .ref (a 200)), (1, .int 2)] := hl
  refine lv_aload_n hx hb dX15_isWrong_0 rfl (lv_at hl 0 rfl) ?_
  refine lv_iload_n hx hb dX15_isWrong_1 rfl (lv_at hl 1 rfl) ?_
  refine va_put (D := D) (ci := 21) (v := .int 2) (ty := .int) (C := RX15) (T := TX15) (N := 29) hx hb ht in_X15 tyX15 tyX15_ok nmX15 hown hK.1 hP hD hS 0 rfl rfl 0 (by decide) (ht _ w_303) (fun _ h9 => h9) rfl (by decide +kernel) rfl rfl (Nat.le_of_ble_eq_true rfl) dX15_isWrong_2 (fun H locs hP hD hS => ?_)
  have hP : va_P D vwCl [((a 200), .inr (21, [.int 2, .ref (a 201), .ref (a 202), .ref (a 203), .ref (a 204), .ref (a 205), .ref (a 206), .int 0, .int 0, .int 0, .int 0, .ref (a 208), .ref (a 209), .ref (a 210), .ref (a 211), .ref (a 212), .int 4, .int 12, .int (-1), .int 0, .ref (g 200), .ref (a 213), .int 0, .int 97, .ref (a 214), .ref (a 215), .ref (a 207), .null, .int 0]))] H := hP
  have hD : va_D (va_A [((a 200), f_m a g)] s.heap.size) [((a 200), .inr (21, [.int 2, .ref (a 201), .ref (a 202), .ref (a 203), .ref (a 204), .ref (a 205), .ref (a 206), .int 0, .int 0, .int 0, .int 0, .ref (a 208), .ref (a 209), .ref (a 210), .ref (a 211), .ref (a 212), .int 4, .int 12, .int (-1), .int 0, .ref (g 200), .ref (a 213), .int 0, .int 97, .ref (a 214), .ref (a 215), .ref (a 207), .null, .int 0]))] := hD
  refine lv_iload_n hx hb dX15_isWrong_5 rfl (lv_at hl 1 rfl) ?_
  refine lv_if_le (tgt := 13) hx hb dX15_isWrong_6 (by decide) (fun c_1 => ?_) (fun c_1 => ?_)
  · exact absurd c_1 (by decide)
  · refine lv_iconst (v := 1) hx hb dX15_isWrong_9 (by decide) ?_
    refine lv_goto (tgt := 14) hx hb dX15_isWrong_10 (by decide) ?_
    have hP9 := hP.sub (ws' := [((a 200), .inr (21, [.int 2, .ref (a 201), .ref (a 202), .ref (a 203), .ref (a 204), .ref (a 205), .ref (a 206), .int 0, .int 0, .int 0, .int 0, .ref (a 208), .ref (a 209), .ref (a 210), .ref (a 211), .ref (a 212), .int 4, .int 12, .int (-1), .int 0, .ref (g 200), .ref (a 213), .int 0, .int 97, .ref (a 214), .ref (a 215), .ref (a 207), .null, .int 0]))]) [0] rfl
    have hD9 := hD.sub (ws' := [((a 200), .inr (21, [.int 2, .ref (a 201), .ref (a 202), .ref (a 203), .ref (a 204), .ref (a 205), .ref (a 206), .int 0, .int 0, .int 0, .int 0, .ref (a 208), .ref (a 209), .ref (a 210), .ref (a 211), .ref (a 212), .int 4, .int 12, .int (-1), .int 0, .ref (g 200), .ref (a 213), .int 0, .int 97, .ref (a 214), .ref (a 215), .ref (a 207), .null, .int 0]))]) [0] (by decide) rfl
    refine W.widen (k := 0) (n := 0) (Nat.le_of_ble_eq_true rfl) (Nat.le_of_ble_eq_true rfl) ?_
    exact W.zret (v := 1) hx hb hr rfl (fun t ht9 hW9 => ⟨⟨1, (), rfl, ⟨rfl, trivial⟩, ⟨(by rw [ht9]; exact hP9), hD9⟩⟩, hS.F ht9⟩) hS.2.2 dX15_isWrong_14 hlocks
set_option maxHeartbeats 4000000 in
set_option maxRecDepth 100000 in
theorem k_X15_breakChain (l : Launch) (D : va_G) (g : Nat → ClassId) (z0 sz : Nat) (a : Nat → Nat) (p0 : Int32) (p1 : Int32) : Met l yX15_breakChain (.code yX15_breakChain cX15_breakChain 5 (some .int) :: TG) (rmk 1 0 0 22) (va_Pc [.ref (a 200), .int p0, .int p1] (PP D g z0 sz [((a 200), f_m a g), ((a 203), .inr (5, [.int 0, .ref (g 100), .int 0]))])) (va_Qi (fun (r : Int32) (u : Int32) => ((r = 0) ∧ (u = 1) ∧ ((p0 < (-1)) ∨ ((¬ p0 < (-1)) ∧ (((-1) : Int32) < p0)) ∨ ((¬ p0 < (-1)) ∧ (¬ ((-1) : Int32) < p0) ∧ (p1 < 0)) ∨ ((¬ p0 < (-1)) ∧ (¬ ((-1) : Int32) < p0) ∧ (¬ p1 < 0) ∧ ((1 : Int32) < p1)))) ∨ ((r = 0) ∧ (u = 2) ∧ ((¬ p0 < (-1)) ∧ (¬ ((-1) : Int32) < p0) ∧ (¬ p1 < 0) ∧ (¬ (1 : Int32) < p1)))) (fun (u : Int32) (t : State) => va_P D vwCl [((a 200), .inr (21, [.int u, .ref (a 201), .ref (a 202), .ref (a 203), .ref (a 204), .ref (a 205), .ref (a 206), .int 0, .int 0, .int 0, .int 0, .ref (a 208), .ref (a 209), .ref (a 210), .ref (a 211), .ref (a 212), .int 4, .int 12, .int (-1), .int 0, .ref (g 200), .ref (a 213), .int 0, .int 97, .ref (a 214), .ref (a 215), .ref (a 207), .null, .int 0]))] t.heap ∧ va_D (va_A [((a 200), f_m a g), ((a 203), .inr (5, [.int 0, .ref (g 100), .int 0]))] sz) [((a 200), .inr (21, [.int u, .ref (a 201), .ref (a 202), .ref (a 203), .ref (a 204), .ref (a 205), .ref (a 206), .int 0, .int 0, .int 0, .int 0, .ref (a 208), .ref (a 209), .ref (a 210), .ref (a 211), .ref (a 212), .int 4, .int 12, .int (-1), .int 0, .ref (g 200), .ref (a 213), .int 0, .int 97, .ref (a 214), .ref (a 215), .ref (a 207), .null, .int 0]))]) (va_A [((a 200), f_m a g), ((a 203), .inr (5, [.int 0, .ref (g 100), .int 0]))] sz)) 0 0 (va_A [((a 200), f_m a g), ((a 203), .inr (5, [.int 0, .ref (g 100), .int 0]))] sz) := by
  refine met0 (cc := cX15_breakChain) (n := 5) (by decide) (Nat.le_of_ble_eq_true rfl) ?_
  intro p e s m args below meth c hx hb hr hml hown ht hlocks hnm hP0 hD0 hK hZ hsz hz ls hl
  subst hsz
  have hA : ∀ q : Nat, s.heap.size ≤ q → va_A [((a 200), f_m a g), ((a 203), .inr (5, [.int 0, .ref (g 100), .int 0]))] s.heap.size q := Anw
  have hAz : ∀ q, va_A [((a 200), f_m a g), ((a 203), .inr (5, [.int 0, .ref (g 100), .int 0]))] s.heap.size q → z0 ≤ q := Awz hz hD0
  have hS : va_S (va_A [((a 200), f_m a g), ((a 203), .inr (5, [.int 0, .ref (g 100), .int 0]))] s.heap.size) s.heap s.heap [] := va_S.rf
  have hD : va_D (va_A [((a 200), f_m a g), ((a 203), .inr (5, [.int 0, .ref (g 100), .int 0]))] s.heap.size) [((a 200), f_m a g), ((a 203), .inr (5, [.int 0, .ref (g 100), .int 0]))] := hD0.self
  have hP : va_P D vwCl [((a 200), f_m a g), ((a 203), .inr (5, [.int 0, .ref (g 100), .int 0]))] s.heap := hP0
  have hl : lv_has ls 5 [(0, .ref (a 200)), (1, .int p0), (2, .int p1)] := hl
  refine lv_iload_n hx hb dX15_breakChain_0 rfl (lv_at hl 1 rfl) ?_
  refine lv_iconst (v := (-1)) hx hb dX15_breakChain_1 (by decide) ?_
  refine lv_aload_n hx hb dX15_breakChain_2 rfl (lv_at hl 0 rfl) ?_
  refine va_get (D := D) (ci := 21) (v := .ref (a 203)) (C := RX15) (T := TX15) (N := 29) hx hb ht in_X15 hown hK.1 hP 0 rfl rfl 3 (by decide) (ht _ w_382) (fun _ h9 => h9) rfl dX15_breakChain_3 ?_
  have hPc : va_P D vwCl [((a 203), .inr (5, [.int 0, .ref (g 100), .int 0]))] _ := hP.sub (ws' := [((a 203), .inr (5, [.int 0, .ref (g 100), .int 0]))]) [1] rfl
  have hDc : va_D (fun q => z0 ≤ q) [((a 203), .inr (5, [.int 0, .ref (g 100), .int 0]))] := (hD.to hAz).pick (ws' := [((a 203), .inr (5, [.int 0, .ref (g 100), .int 0]))]) [1] (by decide) rfl
  have hFc := AnA (ws := [((a 200), f_m a g), ((a 203), .inr (5, [.int 0, .ref (g 100), .int 0]))]) hS.1
  refine va_callFi (va_runF (As := []) (rest := [.int (-1), .int p0]) (hK.1.1 5 _ rfl).2 ⟨hx, hb, hml, hown, ht⟩ (k_Jx4a65c_size_8abf5 l D g z0 _ a (a 203)) (va_cwF 0 ht (gF w_356 w_358 w_359 w_323 w_357) rfl rfl rfl (hK.2.2.2.1 _ (List.mem_of_getElem? (i := 0) rfl)) (by decide +kernel) (le2 rfl rfl)) ⟨PP.blind, va_recv hK.1 hP (ci := 5) (q0 := 1) rfl rfl, PP.mk' hK hZ hz hAz hS hPc hDc⟩ rfl rfl hl.1 rfl (lv_room (Nat.le_of_ble_eq_true rfl)) dX15_breakChain_6 (le2 rfl rfl)) hS (fun q _ h => hFc q h) hFc (fun r u t H locs ht1 hvm hw hB hz1 hk1 hS => ?_)
  obtain ⟨rfl, hw⟩ := hw
  have hP := ro1 hP hk1
  refine lv_iconst (v := 1) hx hb dX15_breakChain_11 (by decide) ?_
  refine lv_isub hx hb dX15_breakChain_12 ?_
  refine r_topi (v := (-1)) (by decide) ?_
  have hPc : va_P D vwCl [] _ := hP.sub (ws' := []) [] rfl
  have hDc : va_D (fun q => z0 ≤ q) [] := (hD.to hAz).pick (ws' := []) [] (by decide) rfl
  have hFc := AnA (ws := [((a 200), f_m a g), ((a 203), .inr (5, [.int 0, .ref (g 100), .int 0]))]) hS.1
  refine va_calli (va_runS (As := [.int p0, .int (-1), .int (-1)]) (rest := []) ⟨hx, hb, hml, hown, ht⟩ (k_X15_isBetween_v1 l D g z0 _ a p0) (va_cwS 3 ht (gS w_369 w_371 w_334 w_370) rfl rfl rfl (by decide +kernel) (le2 rfl rfl)) ⟨PP.blind, PP.mk' hK hZ hz hAz hS hPc hDc⟩ rfl rfl hl.1 rfl (lv_room (Nat.le_of_ble_eq_true rfl)) dX15_breakChain_13 (le2 rfl rfl)) hS (fun q _ h => hFc q h) hFc (fun r u t H locs ht1 hvm hw hB hz1 hk1 hS => ?_)
  rcases hw with hw | hw
  · obtain ⟨rfl, hw⟩ := hw
    rcases hw with hw | hw
    · have c_1 := hw
      have hP := ro1 hP hk1
      refine lv_if_eq (tgt := 32) hx hb dX15_breakChain_16 (by decide) (fun c_2 => ?_) (fun c_2 => ?_)
      · refine lv_iconst (v := 0) hx hb dX15_breakChain_32 (by decide) ?_
        refine lv_istore_n (lv' := [(3, .int 0), (0, .ref (a 200)), (1, .int p0), (2, .int p1)]) hx hb dX15_breakChain_33 rfl hl (by decide) rfl (fun ls hl => ?_)
        refine lv_aload_n hx hb dX15_breakChain_34 rfl (lv_at hl 1 rfl) ?_
        refine lv_iload_n hx hb dX15_breakChain_35 rfl (lv_at hl 0 rfl) ?_
        refine lv_if_ne (tgt := 43) hx hb dX15_breakChain_36 (by decide) (fun c_3 => ?_) (fun c_3 => ?_)
        · exact absurd c_3 (by decide)
        · refine lv_iconst (v := 1) hx hb dX15_breakChain_39 (by decide) ?_
          refine lv_goto (tgt := 55) hx hb dX15_breakChain_40 (by decide) ?_
          have hPc : va_P D vwCl [((a 200), f_m a g)] _ := hP.sub (ws' := [((a 200), f_m a g)]) [0] rfl
          have hDc : va_D (fun q => z0 ≤ q) [((a 200), f_m a g)] := (hD.to hAz).pick (ws' := [((a 200), f_m a g)]) [0] (by decide) rfl
          have hFc := va_free (wc := [((a 200), f_m a g)]) hD hS hA [0] rfl
          refine va_calli (va_runV (As := [.int 1]) (rest := []) ⟨hx, hb, hml, hown, ht⟩ (k_X15_isWrong l D g z0 _ a) (cwV 1 ht (gV w_376 w_378 w_379 w_334 w_377) rfl rfl rfl (by decide +kernel) (le2 rfl rfl)) ⟨PP.blind, va_recv hK.1 hP (ci := 21) (q0 := 0) rfl rfl, PP.mk' hK hZ hz hAz hS hPc hDc⟩ rfl rfl hl.1 rfl (lv_room (Nat.le_of_ble_eq_true rfl)) dX15_breakChain_55 (le2 rfl rfl)) hS (fun q _ h => hFc q h) hFc (fun r u t H locs ht1 hvm hw hB hz1 hk1 hS => ?_)
          obtain ⟨rfl, hw⟩ := hw
          obtain ⟨hP1, hD1⟩ := hB
          rw [ht1] at hP1
          obtain ⟨hP, hD⟩ := va_join (wr := [((a 203), .inr (5, [.int 0, .ref (g 100), .int 0]))]) (w1 := [((a 200), .inr (21, [.int 1, .ref (a 201), .ref (a 202), .ref (a 203), .ref (a 204), .ref (a 205), .ref (a 206), .int 0, .int 0, .int 0, .int 0, .ref (a 208), .ref (a 209), .ref (a 210), .ref (a 211), .ref (a 212), .int 4, .int 12, .int (-1), .int 0, .ref (g 200), .ref (a 213), .int 0, .int 97, .ref (a 214), .ref (a 215), .ref (a 207), .null, .int 0]))]) hP hD [0] [1] rfl rfl (by decide) (by decide) hk1 hFc hP1 hD1
          have hP : va_P D vwCl [((a 203), .inr (5, [.int 0, .ref (g 100), .int 0])), ((a 200), .inr (21, [.int 1, .ref (a 201), .ref (a 202), .ref (a 203), .ref (a 204), .ref (a 205), .ref (a 206), .int 0, .int 0, .int 0, .int 0, .ref (a 208), .ref (a 209), .ref (a 210), .ref (a 211), .ref (a 212), .int 4, .int 12, .int (-1), .int 0, .ref (g 200), .ref (a 213), .int 0, .int 97, .ref (a 214), .ref (a 215), .ref (a 207), .null, .int 0]))] H := hP
          have hD : va_D (va_A [((a 200), f_m a g), ((a 203), .inr (5, [.int 0, .ref (g 100), .int 0]))] s.heap.size) [((a 203), .inr (5, [.int 0, .ref (g 100), .int 0])), ((a 200), .inr (21, [.int 1, .ref (a 201), .ref (a 202), .ref (a 203), .ref (a 204), .ref (a 205), .ref (a 206), .int 0, .int 0, .int 0, .int 0, .ref (a 208), .ref (a 209), .ref (a 210), .ref (a 211), .ref (a 212), .int 4, .int 12, .int (-1), .int 0, .ref (g 200), .ref (a 213), .int 0, .int 97, .ref (a 214), .ref (a 215), .ref (a 207), .null, .int 0]))] := hD
          refine lv_if_eq (tgt := 63) hx hb dX15_breakChain_58 (by decide) (fun c_4 => ?_) (fun c_4 => ?_)
          · exact absurd c_4 (by decide)
          · refine lv_iconst (v := 0) hx hb dX15_breakChain_61 (by decide) ?_
            have hP9 := hP.sub (ws' := [((a 200), .inr (21, [.int 1, .ref (a 201), .ref (a 202), .ref (a 203), .ref (a 204), .ref (a 205), .ref (a 206), .int 0, .int 0, .int 0, .int 0, .ref (a 208), .ref (a 209), .ref (a 210), .ref (a 211), .ref (a 212), .int 4, .int 12, .int (-1), .int 0, .ref (g 200), .ref (a 213), .int 0, .int 97, .ref (a 214), .ref (a 215), .ref (a 207), .null, .int 0]))]) [1] rfl
            have hD9 := hD.sub (ws' := [((a 200), .inr (21, [.int 1, .ref (a 201), .ref (a 202), .ref (a 203), .ref (a 204), .ref (a 205), .ref (a 206), .int 0, .int 0, .int 0, .int 0, .ref (a 208), .ref (a 209), .ref (a 210), .ref (a 211), .ref (a 212), .int 4, .int 12, .int (-1), .int 0, .ref (g 200), .ref (a 213), .int 0, .int 97, .ref (a 214), .ref (a 215), .ref (a 207), .null, .int 0]))]) [1] (by decide) rfl
            refine W.widen (k := 0) (n := 0) (Nat.le_of_ble_eq_true rfl) (Nat.le_of_ble_eq_true rfl) ?_
            exact W.iret (v := 0) hx hb hr (fun t ht9 hW9 => ⟨⟨0, 1, rfl, (Or.inl ⟨rfl, rfl, (Or.inl c_1)⟩), ⟨(by rw [ht9]; exact hP9), hD9⟩⟩, hS.F ht9⟩) hS.2.2 dX15_breakChain_62 hlocks
      · exact absurd c_2 (by decide)
    · obtain ⟨c_5, c_6⟩ := hw
      have hP := ro1 hP hk1
      refine lv_if_eq (tgt := 32) hx hb dX15_breakChain_16 (by decide) (fun c_7 => ?_) (fun c_7 => ?_)
      · refine lv_iconst (v := 0) hx hb dX15_breakChain_32 (by decide) ?_
        refine lv_istore_n (lv' := [(3, .int 0), (0, .ref (a 200)), (1, .int p0), (2, .int p1)]) hx hb dX15_breakChain_33 rfl hl (by decide) rfl (fun ls hl => ?_)
        refine lv_aload_n hx hb dX15_breakChain_34 rfl (lv_at hl 1 rfl) ?_
        refine lv_iload_n hx hb dX15_breakChain_35 rfl (lv_at hl 0 rfl) ?_
        refine lv_if_ne (tgt := 43) hx hb dX15_breakChain_36 (by decide) (fun c_8 => ?_) (fun c_8 => ?_)
        · exact absurd c_8 (by decide)
        · refine lv_iconst (v := 1) hx hb dX15_breakChain_39 (by decide) ?_
          refine lv_goto (tgt := 55) hx hb dX15_breakChain_40 (by decide) ?_
          have hPc : va_P D vwCl [((a 200), f_m a g)] _ := hP.sub (ws' := [((a 200), f_m a g)]) [0] rfl
          have hDc : va_D (fun q => z0 ≤ q) [((a 200), f_m a g)] := (hD.to hAz).pick (ws' := [((a 200), f_m a g)]) [0] (by decide) rfl
          have hFc := va_free (wc := [((a 200), f_m a g)]) hD hS hA [0] rfl
          refine va_calli (va_runV (As := [.int 1]) (rest := []) ⟨hx, hb, hml, hown, ht⟩ (k_X15_isWrong l D g z0 _ a) (cwV 1 ht (gV w_376 w_378 w_379 w_334 w_377) rfl rfl rfl (by decide +kernel) (le2 rfl rfl)) ⟨PP.blind, va_recv hK.1 hP (ci := 21) (q0 := 0) rfl rfl, PP.mk' hK hZ hz hAz hS hPc hDc⟩ rfl rfl hl.1 rfl (lv_room (Nat.le_of_ble_eq_true rfl)) dX15_breakChain_55 (le2 rfl rfl)) hS (fun q _ h => hFc q h) hFc (fun r u t H locs ht1 hvm hw hB hz1 hk1 hS => ?_)
          obtain ⟨rfl, hw⟩ := hw
          obtain ⟨hP1, hD1⟩ := hB
          rw [ht1] at hP1
          obtain ⟨hP, hD⟩ := va_join (wr := [((a 203), .inr (5, [.int 0, .ref (g 100), .int 0]))]) (w1 := [((a 200), .inr (21, [.int 1, .ref (a 201), .ref (a 202), .ref (a 203), .ref (a 204), .ref (a 205), .ref (a 206), .int 0, .int 0, .int 0, .int 0, .ref (a 208), .ref (a 209), .ref (a 210), .ref (a 211), .ref (a 212), .int 4, .int 12, .int (-1), .int 0, .ref (g 200), .ref (a 213), .int 0, .int 97, .ref (a 214), .ref (a 215), .ref (a 207), .null, .int 0]))]) hP hD [0] [1] rfl rfl (by decide) (by decide) hk1 hFc hP1 hD1
          have hP : va_P D vwCl [((a 203), .inr (5, [.int 0, .ref (g 100), .int 0])), ((a 200), .inr (21, [.int 1, .ref (a 201), .ref (a 202), .ref (a 203), .ref (a 204), .ref (a 205), .ref (a 206), .int 0, .int 0, .int 0, .int 0, .ref (a 208), .ref (a 209), .ref (a 210), .ref (a 211), .ref (a 212), .int 4, .int 12, .int (-1), .int 0, .ref (g 200), .ref (a 213), .int 0, .int 97, .ref (a 214), .ref (a 215), .ref (a 207), .null, .int 0]))] H := hP
          have hD : va_D (va_A [((a 200), f_m a g), ((a 203), .inr (5, [.int 0, .ref (g 100), .int 0]))] s.heap.size) [((a 203), .inr (5, [.int 0, .ref (g 100), .int 0])), ((a 200), .inr (21, [.int 1, .ref (a 201), .ref (a 202), .ref (a 203), .ref (a 204), .ref (a 205), .ref (a 206), .int 0, .int 0, .int 0, .int 0, .ref (a 208), .ref (a 209), .ref (a 210), .ref (a 211), .ref (a 212), .int 4, .int 12, .int (-1), .int 0, .ref (g 200), .ref (a 213), .int 0, .int 97, .ref (a 214), .ref (a 215), .ref (a 207), .null, .int 0]))] := hD
          refine lv_if_eq (tgt := 63) hx hb dX15_breakChain_58 (by decide) (fun c_9 => ?_) (fun c_9 => ?_)
          · exact absurd c_9 (by decide)
          · refine lv_iconst (v := 0) hx hb dX15_breakChain_61 (by decide) ?_
            have hP9 := hP.sub (ws' := [((a 200), .inr (21, [.int 1, .ref (a 201), .ref (a 202), .ref (a 203), .ref (a 204), .ref (a 205), .ref (a 206), .int 0, .int 0, .int 0, .int 0, .ref (a 208), .ref (a 209), .ref (a 210), .ref (a 211), .ref (a 212), .int 4, .int 12, .int (-1), .int 0, .ref (g 200), .ref (a 213), .int 0, .int 97, .ref (a 214), .ref (a 215), .ref (a 207), .null, .int 0]))]) [1] rfl
            have hD9 := hD.sub (ws' := [((a 200), .inr (21, [.int 1, .ref (a 201), .ref (a 202), .ref (a 203), .ref (a 204), .ref (a 205), .ref (a 206), .int 0, .int 0, .int 0, .int 0, .ref (a 208), .ref (a 209), .ref (a 210), .ref (a 211), .ref (a 212), .int 4, .int 12, .int (-1), .int 0, .ref (g 200), .ref (a 213), .int 0, .int 97, .ref (a 214), .ref (a 215), .ref (a 207), .null, .int 0]))]) [1] (by decide) rfl
            refine W.widen (k := 0) (n := 0) (Nat.le_of_ble_eq_true rfl) (Nat.le_of_ble_eq_true rfl) ?_
            exact W.iret (v := 0) hx hb hr (fun t ht9 hW9 => ⟨⟨0, 1, rfl, (Or.inl ⟨rfl, rfl, (Or.inr (Or.inl ⟨c_5, c_6⟩))⟩), ⟨(by rw [ht9]; exact hP9), hD9⟩⟩, hS.F ht9⟩) hS.2.2 dX15_breakChain_62 hlocks
      · exact absurd c_7 (by decide)
  · obtain ⟨rfl, hw⟩ := hw
    obtain ⟨c_10, c_11⟩ := hw
    have hP := ro1 hP hk1
    refine lv_if_eq (tgt := 32) hx hb dX15_breakChain_16 (by decide) (fun c_12 => ?_) (fun c_12 => ?_)
    · exact absurd c_12 (by decide)
    · refine lv_iload_n hx hb dX15_breakChain_19 rfl (lv_at hl 2 rfl) ?_
      refine lv_iconst (v := 0) hx hb dX15_breakChain_20 (by decide) ?_
      refine lv_iconst (v := 1) hx hb dX15_breakChain_21 (by decide) ?_
      have hPc : va_P D vwCl [] _ := hP.sub (ws' := []) [] rfl
      have hDc : va_D (fun q => z0 ≤ q) [] := (hD.to hAz).pick (ws' := []) [] (by decide) rfl
      have hFc := AnA (ws := [((a 200), f_m a g), ((a 203), .inr (5, [.int 0, .ref (g 100), .int 0]))]) hS.1
      refine va_calli (va_runS (As := [.int p1, .int 0, .int 1]) (rest := []) ⟨hx, hb, hml, hown, ht⟩ (k_X15_isBetween_v2 l D g z0 _ a p1) (va_cwS 3 ht (gS w_369 w_371 w_334 w_370) rfl rfl rfl (by decide +kernel) (le2 rfl rfl)) ⟨PP.blind, PP.mk' hK hZ hz hAz hS hPc hDc⟩ rfl rfl hl.1 rfl (lv_room (Nat.le_of_ble_eq_true rfl)) dX15_breakChain_22 (le2 rfl rfl)) hS (fun q _ h => hFc q h) hFc (fun r u t H locs ht1 hvm hw hB hz1 hk1 hS => ?_)
      rcases hw with hw | hw
      · obtain ⟨rfl, hw⟩ := hw
        rcases hw with hw | hw
        · have c_13 := hw
          have hP := ro1 hP hk1
          refine lv_if_eq (tgt := 32) hx hb dX15_breakChain_25 (by decide) (fun c_14 => ?_) (fun c_14 => ?_)
          · refine lv_iconst (v := 0) hx hb dX15_breakChain_32 (by decide) ?_
            refine lv_istore_n (lv' := [(3, .int 0), (0, .ref (a 200)), (1, .int p0), (2, .int p1)]) hx hb dX15_breakChain_33 rfl hl (by decide) rfl (fun ls hl => ?_)
            refine lv_aload_n hx hb dX15_breakChain_34 rfl (lv_at hl 1 rfl) ?_
            refine lv_iload_n hx hb dX15_breakChain_35 rfl (lv_at hl 0 rfl) ?_
            refine lv_if_ne (tgt := 43) hx hb dX15_breakChain_36 (by decide) (fun c_15 => ?_) (fun c_15 => ?_)
            · exact absurd c_15 (by decide)
            · refine lv_iconst (v := 1) hx hb dX15_breakChain_39 (by decide) ?_
              refine lv_goto (tgt := 55) hx hb dX15_breakChain_40 (by decide) ?_
              have hPc : va_P D vwCl [((a 200), f_m a g)] _ := hP.sub (ws' := [((a 200), f_m a g)]) [0] rfl
              have hDc : va_D (fun q => z0 ≤ q) [((a 200), f_m a g)] := (hD.to hAz).pick (ws' := [((a 200), f_m a g)]) [0] (by decide) rfl
              have hFc := va_free (wc := [((a 200), f_m a g)]) hD hS hA [0] rfl
              refine va_calli (va_runV (As := [.int 1]) (rest := []) ⟨hx, hb, hml, hown, ht⟩ (k_X15_isWrong l D g z0 _ a) (cwV 1 ht (gV w_376 w_378 w_379 w_334 w_377) rfl rfl rfl (by decide +kernel) (le2 rfl rfl)) ⟨PP.blind, va_recv hK.1 hP (ci := 21) (q0 := 0) rfl rfl, PP.mk' hK hZ hz hAz hS hPc hDc⟩ rfl rfl hl.1 rfl (lv_room (Nat.le_of_ble_eq_true rfl)) dX15_breakChain_55 (le2 rfl rfl)) hS (fun q _ h => hFc q h) hFc (fun r u t H locs ht1 hvm hw hB hz1 hk1 hS => ?_)
              obtain ⟨rfl, hw⟩ := hw
              obtain ⟨hP1, hD1⟩ := hB
              rw [ht1] at hP1
              obtain ⟨hP, hD⟩ := va_join (wr := [((a 203), .inr (5, [.int 0, .ref (g 100), .int 0]))]) (w1 := [((a 200), .inr (21, [.int 1, .ref (a 201), .ref (a 202), .ref (a 203), .ref (a 204), .ref (a 205), .ref (a 206), .int 0, .int 0, .int 0, .int 0, .ref (a 208), .ref (a 209), .ref (a 210), .ref (a 211), .ref (a 212), .int 4, .int 12, .int (-1), .int 0, .ref (g 200), .ref (a 213), .int 0, .int 97, .ref (a 214), .ref (a 215), .ref (a 207), .null, .int 0]))]) hP hD [0] [1] rfl rfl (by decide) (by decide) hk1 hFc hP1 hD1
              have hP : va_P D vwCl [((a 203), .inr (5, [.int 0, .ref (g 100), .int 0])), ((a 200), .inr (21, [.int 1, .ref (a 201), .ref (a 202), .ref (a 203), .ref (a 204), .ref (a 205), .ref (a 206), .int 0, .int 0, .int 0, .int 0, .ref (a 208), .ref (a 209), .ref (a 210), .ref (a 211), .ref (a 212), .int 4, .int 12, .int (-1), .int 0, .ref (g 200), .ref (a 213), .int 0, .int 97, .ref (a 214), .ref (a 215), .ref (a 207), .null, .int 0]))] H := hP
              have hD : va_D (va_A [((a 200), f_m a g), ((a 203), .inr (5, [.int 0, .ref (g 100), .int 0]))] s.heap.size) [((a 203), .inr (5, [.int 0, .ref (g 100), .int 0])), ((a 200), .inr (21, [.int 1, .ref (a 201), .ref (a 202), .ref (a 203), .ref (a 204), .ref (a 205), .ref (a 206), .int 0, .int 0, .int 0, .int 0, .ref (a 208), .ref (a 209), .ref (a 210), .ref (a 211), .ref (a 212), .int 4, .int 12, .int (-1), .int 0, .ref (g 200), .ref (a 213), .int 0, .int 97, .ref (a 214), .ref (a 215), .ref (a 207), .null, .int 0]))] := hD
              refine lv_if_eq (tgt := 63) hx hb dX15_breakChain_58 (by decide) (fun c_16 => ?_) (fun c_16 => ?_)
              · exact absurd c_16 (by decide)
              · refine lv_iconst (v := 0) hx hb dX15_breakChain_61 (by decide) ?_
                have hP9 := hP.sub (ws' := [((a 200), .inr (21, [.int 1, .ref (a 201), .ref (a 202), .ref (a 203), .ref (a 204), .ref (a 205), .ref (a 206), .int 0, .int 0, .int 0, .int 0, .ref (a 208), .ref (a 209), .ref (a 210), .ref (a 211), .ref (a 212), .int 4, .int 12, .int (-1), .int 0, .ref (g 200), .ref (a 213), .int 0, .int 97, .ref (a 214), .ref (a 215), .ref (a 207), .null, .int 0]))]) [1] rfl
                have hD9 := hD.sub (ws' := [((a 200), .inr (21, [.int 1, .ref (a 201), .ref (a 202), .ref (a 203), .ref (a 204), .ref (a 205), .ref (a 206), .int 0, .int 0, .int 0, .int 0, .ref (a 208), .ref (a 209), .ref (a 210), .ref (a 211), .ref (a 212), .int 4, .int 12, .int (-1), .int 0, .ref (g 200), .ref (a 213), .int 0, .int 97, .ref (a 214), .ref (a 215), .ref (a 207), .null, .int 0]))]) [1] (by decide) rfl
                refine W.widen (k := 0) (n := 0) (Nat.le_of_ble_eq_true rfl) (Nat.le_of_ble_eq_true rfl) ?_
                exact W.iret (v := 0) hx hb hr (fun t ht9 hW9 => ⟨⟨0, 1, rfl, (Or.inl ⟨rfl, rfl, (Or.inr (Or.inr (Or.inl ⟨c_10, c_11, c_13⟩)))⟩), ⟨(by rw [ht9]; exact hP9), hD9⟩⟩, hS.F ht9⟩) hS.2.2 dX15_breakChain_62 hlocks
          · exact absurd c_14 (by decide)
        · obtain ⟨c_17, c_18⟩ := hw
          have hP := ro1 hP hk1
          refine lv_if_eq (tgt := 32) hx hb dX15_breakChain_25 (by decide) (fun c_19 => ?_) (fun c_19 => ?_)
          · refine lv_iconst (v := 0) hx hb dX15_breakChain_32 (by decide) ?_
            refine lv_istore_n (lv' := [(3, .int 0), (0, .ref (a 200)), (1, .int p0), (2, .int p1)]) hx hb dX15_breakChain_33 rfl hl (by decide) rfl (fun ls hl => ?_)
            refine lv_aload_n hx hb dX15_breakChain_34 rfl (lv_at hl 1 rfl) ?_
            refine lv_iload_n hx hb dX15_breakChain_35 rfl (lv_at hl 0 rfl) ?_
            refine lv_if_ne (tgt := 43) hx hb dX15_breakChain_36 (by decide) (fun c_20 => ?_) (fun c_20 => ?_)
            · exact absurd c_20 (by decide)
            · refine lv_iconst (v := 1) hx hb dX15_breakChain_39 (by decide) ?_
              refine lv_goto (tgt := 55) hx hb dX15_breakChain_40 (by decide) ?_
              have hPc : va_P D vwCl [((a 200), f_m a g)] _ := hP.sub (ws' := [((a 200), f_m a g)]) [0] rfl
              have hDc : va_D (fun q => z0 ≤ q) [((a 200), f_m a g)] := (hD.to hAz).pick (ws' := [((a 200), f_m a g)]) [0] (by decide) rfl
              have hFc := va_free (wc := [((a 200), f_m a g)]) hD hS hA [0] rfl
              refine va_calli (va_runV (As := [.int 1]) (rest := []) ⟨hx, hb, hml, hown, ht⟩ (k_X15_isWrong l D g z0 _ a) (cwV 1 ht (gV w_376 w_378 w_379 w_334 w_377) rfl rfl rfl (by decide +kernel) (le2 rfl rfl)) ⟨PP.blind, va_recv hK.1 hP (ci := 21) (q0 := 0) rfl rfl, PP.mk' hK hZ hz hAz hS hPc hDc⟩ rfl rfl hl.1 rfl (lv_room (Nat.le_of_ble_eq_true rfl)) dX15_breakChain_55 (le2 rfl rfl)) hS (fun q _ h => hFc q h) hFc (fun r u t H locs ht1 hvm hw hB hz1 hk1 hS => ?_)
              obtain ⟨rfl, hw⟩ := hw
              obtain ⟨hP1, hD1⟩ := hB
              rw [ht1] at hP1
              obtain ⟨hP, hD⟩ := va_join (wr := [((a 203), .inr (5, [.int 0, .ref (g 100), .int 0]))]) (w1 := [((a 200), .inr (21, [.int 1, .ref (a 201), .ref (a 202), .ref (a 203), .ref (a 204), .ref (a 205), .ref (a 206), .int 0, .int 0, .int 0, .int 0, .ref (a 208), .ref (a 209), .ref (a 210), .ref (a 211), .ref (a 212), .int 4, .int 12, .int (-1), .int 0, .ref (g 200), .ref (a 213), .int 0, .int 97, .ref (a 214), .ref (a 215), .ref (a 207), .null, .int 0]))]) hP hD [0] [1] rfl rfl (by decide) (by decide) hk1 hFc hP1 hD1
              have hP : va_P D vwCl [((a 203), .inr (5, [.int 0, .ref (g 100), .int 0])), ((a 200), .inr (21, [.int 1, .ref (a 201), .ref (a 202), .ref (a 203), .ref (a 204), .ref (a 205), .ref (a 206), .int 0, .int 0, .int 0, .int 0, .ref (a 208), .ref (a 209), .ref (a 210), .ref (a 211), .ref (a 212), .int 4, .int 12, .int (-1), .int 0, .ref (g 200), .ref (a 213), .int 0, .int 97, .ref (a 214), .ref (a 215), .ref (a 207), .null, .int 0]))] H := hP
              have hD : va_D (va_A [((a 200), f_m a g), ((a 203), .inr (5, [.int 0, .ref (g 100), .int 0]))] s.heap.size) [((a 203), .inr (5, [.int 0, .ref (g 100), .int 0])), ((a 200), .inr (21, [.int 1, .ref (a 201), .ref (a 202), .ref (a 203), .ref (a 204), .ref (a 205), .ref (a 206), .int 0, .int 0, .int 0, .int 0, .ref (a 208), .ref (a 209), .ref (a 210), .ref (a 211), .ref (a 212), .int 4, .int 12, .int (-1), .int 0, .ref (g 200), .ref (a 213), .int 0, .int 97, .ref (a 214), .ref (a 215), .ref (a 207), .null, .int 0]))] := hD
              refine lv_if_eq (tgt := 63) hx hb dX15_breakChain_58 (by decide) (fun c_21 => ?_) (fun c_21 => ?_)
              · exact absurd c_21 (by decide)
              · refine lv_iconst (v := 0) hx hb dX15_breakChain_61 (by decide) ?_
                have hP9 := hP.sub (ws' := [((a 200), .inr (21, [.int 1, .ref (a 201), .ref (a 202), .ref (a 203), .ref (a 204), .ref (a 205), .ref (a 206), .int 0, .int 0, .int 0, .int 0, .ref (a 208), .ref (a 209), .ref (a 210), .ref (a 211), .ref (a 212), .int 4, .int 12, .int (-1), .int 0, .ref (g 200), .ref (a 213), .int 0, .int 97, .ref (a 214), .ref (a 215), .ref (a 207), .null, .int 0]))]) [1] rfl
                have hD9 := hD.sub (ws' := [((a 200), .inr (21, [.int 1, .ref (a 201), .ref (a 202), .ref (a 203), .ref (a 204), .ref (a 205), .ref (a 206), .int 0, .int 0, .int 0, .int 0, .ref (a 208), .ref (a 209), .ref (a 210), .ref (a 211), .ref (a 212), .int 4, .int 12, .int (-1), .int 0, .ref (g 200), .ref (a 213), .int 0, .int 97, .ref (a 214), .ref (a 215), .ref (a 207), .null, .int 0]))]) [1] (by decide) rfl
                refine W.widen (k := 0) (n := 0) (Nat.le_of_ble_eq_true rfl) (Nat.le_of_ble_eq_true rfl) ?_
                exact W.iret (v := 0) hx hb hr (fun t ht9 hW9 => ⟨⟨0, 1, rfl, (Or.inl ⟨rfl, rfl, (Or.inr (Or.inr (Or.inr ⟨c_10, c_11, c_17, c_18⟩)))⟩), ⟨(by rw [ht9]; exact hP9), hD9⟩⟩, hS.F ht9⟩) hS.2.2 dX15_breakChain_62 hlocks
          · exact absurd c_19 (by decide)
      · obtain ⟨rfl, hw⟩ := hw
        obtain ⟨c_22, c_23⟩ := hw
        have hP := ro1 hP hk1
        refine lv_if_eq (tgt := 32) hx hb dX15_breakChain_25 (by decide) (fun c_24 => ?_) (fun c_24 => ?_)
        · exact absurd c_24 (by decide)
        · refine lv_iconst (v := 1) hx hb dX15_breakChain_28 (by decide) ?_
          refine lv_goto (tgt := 33) hx hb dX15_breakChain_29 (by decide) ?_
          refine lv_istore_n (lv' := [(3, .int 1), (0, .ref (a 200)), (1, .int p0), (2, .int p1)]) hx hb dX15_breakChain_33 rfl hl (by decide) rfl (fun ls hl => ?_)
          refine lv_aload_n hx hb dX15_breakChain_34 rfl (lv_at hl 1 rfl) ?_
          refine lv_iload_n hx hb dX15_breakChain_35 rfl (lv_at hl 0 rfl) ?_
          refine lv_if_ne (tgt := 43) hx hb dX15_breakChain_36 (by decide) (fun c_25 => ?_) (fun c_25 => ?_)
          · refine lv_aload_n hx hb dX15_breakChain_43 rfl (lv_at hl 1 rfl) ?_
            refine va_get (D := D) (ci := 21) (v := .int 0) (C := RX15) (T := TX15) (N := 29) hx hb ht in_X15 hown hK.1 hP 0 rfl rfl 7 (by decide) (ht _ w_383) (fun _ h9 => h9) rfl dX15_breakChain_44 ?_
            refine lv_if_ne (tgt := 54) hx hb dX15_breakChain_47 (by decide) (fun c_26 => ?_) (fun c_26 => ?_)
            · exact absurd c_26 (by decide)
            · refine lv_iconst (v := 2) hx hb dX15_breakChain_50 (by decide) ?_
              refine lv_goto (tgt := 55) hx hb dX15_breakChain_51 (by decide) ?_
              have hPc : va_P D vwCl [((a 200), f_m a g)] _ := hP.sub (ws' := [((a 200), f_m a g)]) [0] rfl
              have hDc : va_D (fun q => z0 ≤ q) [((a 200), f_m a g)] := (hD.to hAz).pick (ws' := [((a 200), f_m a g)]) [0] (by decide) rfl
              have hFc := va_free (wc := [((a 200), f_m a g)]) hD hS hA [0] rfl
              refine va_calli (va_runV (As := [.int 2]) (rest := []) ⟨hx, hb, hml, hown, ht⟩ (k_X15_isWrong_v2 l D g z0 _ a) (cwV 1 ht (gV w_376 w_378 w_379 w_334 w_377) rfl rfl rfl (by decide +kernel) (le2 rfl rfl)) ⟨PP.blind, va_recv hK.1 hP (ci := 21) (q0 := 0) rfl rfl, PP.mk' hK hZ hz hAz hS hPc hDc⟩ rfl rfl hl.1 rfl (lv_room (Nat.le_of_ble_eq_true rfl)) dX15_breakChain_55 (le2 rfl rfl)) hS (fun q _ h => hFc q h) hFc (fun r u t H locs ht1 hvm hw hB hz1 hk1 hS => ?_)
              obtain ⟨rfl, hw⟩ := hw
              obtain ⟨hP1, hD1⟩ := hB
              rw [ht1] at hP1
              obtain ⟨hP, hD⟩ := va_join (wr := [((a 203), .inr (5, [.int 0, .ref (g 100), .int 0]))]) (w1 := [((a 200), .inr (21, [.int 2, .ref (a 201), .ref (a 202), .ref (a 203), .ref (a 204), .ref (a 205), .ref (a 206), .int 0, .int 0, .int 0, .int 0, .ref (a 208), .ref (a 209), .ref (a 210), .ref (a 211), .ref (a 212), .int 4, .int 12, .int (-1), .int 0, .ref (g 200), .ref (a 213), .int 0, .int 97, .ref (a 214), .ref (a 215), .ref (a 207), .null, .int 0]))]) hP hD [0] [1] rfl rfl (by decide) (by decide) hk1 hFc hP1 hD1
              have hP : va_P D vwCl [((a 203), .inr (5, [.int 0, .ref (g 100), .int 0])), ((a 200), .inr (21, [.int 2, .ref (a 201), .ref (a 202), .ref (a 203), .ref (a 204), .ref (a 205), .ref (a 206), .int 0, .int 0, .int 0, .int 0, .ref (a 208), .ref (a 209), .ref (a 210), .ref (a 211), .ref (a 212), .int 4, .int 12, .int (-1), .int 0, .ref (g 200), .ref (a 213), .int 0, .int 97, .ref (a 214), .ref (a 215), .ref (a 207), .null, .int 0]))] H := hP
              have hD : va_D (va_A [((a 200), f_m a g), ((a 203), .inr (5, [.int 0, .ref (g 100), .int 0]))] s.heap.size) [((a 203), .inr (5, [.int 0, .ref (g 100), .int 0])), ((a 200), .inr (21, [.int 2, .ref (a 201), .ref (a 202), .ref (a 203), .ref (a 204), .ref (a 205), .ref (a 206), .int 0, .int 0, .int 0, .int 0, .ref (a 208), .ref (a 209), .ref (a 210), .ref (a 211), .ref (a 212), .int 4, .int 12, .int (-1), .int 0, .ref (g 200), .ref (a 213), .int 0, .int 97, .ref (a 214), .ref (a 215), .ref (a 207), .null, .int 0]))] := hD
              refine lv_if_eq (tgt := 63) hx hb dX15_breakChain_58 (by decide) (fun c_27 => ?_) (fun c_27 => ?_)
              · exact absurd c_27 (by decide)
              · refine lv_iconst (v := 0) hx hb dX15_breakChain_61 (by decide) ?_
                have hP9 := hP.sub (ws' := [((a 200), .inr (21, [.int 2, .ref (a 201), .ref (a 202), .ref (a 203), .ref (a 204), .ref (a 205), .ref (a 206), .int 0, .int 0, .int 0, .int 0, .ref (a 208), .ref (a 209), .ref (a 210), .ref (a 211), .ref (a 212), .int 4, .int 12, .int (-1), .int 0, .ref (g 200), .ref (a 213), .int 0, .int 97, .ref (a 214), .ref (a 215), .ref (a 207), .null, .int 0]))]) [1] rfl
                have hD9 := hD.sub (ws' := [((a 200), .inr (21, [.int 2, .ref (a 201), .ref (a 202), .ref (a 203), .ref (a 204), .ref (a 205), .ref (a 206), .int 0, .int 0, .int 0, .int 0, .ref (a 208), .ref (a 209), .ref (a 210), .ref (a 211), .ref (a 212), .int 4, .int 12, .int (-1), .int 0, .ref (g 200), .ref (a 213), .int 0, .int 97, .ref (a 214), .ref (a 215), .ref (a 207), .null, .int 0]))]) [1] (by decide) rfl
                refine W.widen (k := 0) (n := 0) (Nat.le_of_ble_eq_true rfl) (Nat.le_of_ble_eq_true rfl) ?_
                exact W.iret (v := 0) hx hb hr (fun t ht9 hW9 => ⟨⟨0, 2, rfl, (Or.inr ⟨rfl, rfl, ⟨c_10, c_11, c_22, c_23⟩⟩), ⟨(by rw [ht9]; exact hP9), hD9⟩⟩, hS.F ht9⟩) hS.2.2 dX15_breakChain_62 hlocks
          · exact absurd c_25 (by decide)
set_option maxHeartbeats 4000000 in
set_option maxRecDepth 100000 in
theorem k_X15_isNoStuck (l : Launch) (D : va_G) (g : Nat → ClassId) (z0 sz : Nat) (a : Nat → Nat) (p0 : Int32) : Met l yX15_isNoStuck (.code yX15_isNoStuck cX15_isNoStuck 2 (some .boolean) :: TG) (rmk 2 0 0 43) (va_Pc [.ref (a 200), .int p0] (PP D g z0 sz [((a 200), f_m a g), ((a 204), .inr (5, [.int 0, .ref (g 100), .int 0]))])) (va_Qi (fun (r : Int32) (u : Unit) => (r = 1) ∧ True) (fun (u : Unit) (t : State) => va_P D vwCl [((a 204), .inr (5, [.int 0, .ref (g 100), .int 0])), ((a 200), .inr (21, [.int 1, .ref (a 201), .ref (a 202), .ref (a 203), .ref (a 204), .ref (a 205), .ref (a 206), .int 0, .int 0, .int 0, .int 0, .ref (a 208), .ref (a 209), .ref (a 210), .ref (a 211), .ref (a 212), .int 4, .int 12, .int (-1), .int 0, .ref (g 200), .ref (a 213), .int 0, .int 97, .ref (a 214), .ref (a 215), .ref (a 207), .null, .int 0]))] t.heap ∧ va_D (va_A [((a 200), f_m a g), ((a 204), .inr (5, [.int 0, .ref (g 100), .int 0]))] sz) [((a 204), .inr (5, [.int 0, .ref (g 100), .int 0])), ((a 200), .inr (21, [.int 1, .ref (a 201), .ref (a 202), .ref (a 203), .ref (a 204), .ref (a 205), .ref (a 206), .int 0, .int 0, .int 0, .int 0, .ref (a 208), .ref (a 209), .ref (a 210), .ref (a 211), .ref (a 212), .int 4, .int 12, .int (-1), .int 0, .ref (g 200), .ref (a 213), .int 0, .int 97, .ref (a 214), .ref (a 215), .ref (a 207), .null, .int 0]))]) (va_A [((a 200), f_m a g), ((a 204), .inr (5, [.int 0, .ref (g 100), .int 0]))] sz)) 0 0 (va_A [((a 200), f_m a g), ((a 204), .inr (5, [.int 0, .ref (g 100), .int 0]))] sz) := by
  refine met0 (cc := cX15_isNoStuck) (n := 2) (by decide) (Nat.le_of_ble_eq_true rfl) ?_
  intro p e s m args below meth c hx hb hr hml hown ht hlocks hnm hP0 hD0 hK hZ hsz hz ls hl
  subst hsz
  have hA : ∀ q : Nat, s.heap.size ≤ q → va_A [((a 200), f_m a g), ((a 204), .inr (5, [.int 0, .ref (g 100), .int 0]))] s.heap.size q := Anw
  have hAz : ∀ q, va_A [((a 200), f_m a g), ((a 204), .inr (5, [.int 0, .ref (g 100), .int 0]))] s.heap.size q → z0 ≤ q := Awz hz hD0
  have hS : va_S (va_A [((a 200), f_m a g), ((a 204), .inr (5, [.int 0, .ref (g 100), .int 0]))] s.heap.size) s.heap s.heap [] := va_S.rf
  have hD : va_D (va_A [((a 200), f_m a g), ((a 204), .inr (5, [.int 0, .ref (g 100), .int 0]))] s.heap.size) [((a 200), f_m a g), ((a 204), .inr (5, [.int 0, .ref (g 100), .int 0]))] := hD0.self
  have hP : va_P D vwCl [((a 200), f_m a g), ((a 204), .inr (5, [.int 0, .ref (g 100), .int 0]))] s.heap := hP0
  have hl : lv_has ls 2 [(0, .ref (a 200)), (1, .int p0)] := hl
  refine lv_aload_n hx hb dX15_isNoStuck_0 rfl (lv_at hl 0 rfl) ?_
  refine lv_aload_n hx hb dX15_isNoStuck_1 rfl (lv_at hl 0 rfl) ?_
  refine lv_iload_n hx hb dX15_isNoStuck_2 rfl (lv_at hl 1 rfl) ?_
  have hPc : va_P D vwCl [((a 200), f_m a g), ((a 204), .inr (5, [.int 0, .ref (g 100), .int 0]))] _ := hP.sub (ws' := [((a 200), f_m a g), ((a 204), .inr (5, [.int 0, .ref (g 100), .int 0]))]) [0, 1] rfl
  have hDc : va_D (fun q => z0 ≤ q) [((a 200), f_m a g), ((a 204), .inr (5, [.int 0, .ref (g 100), .int 0]))] := (hD.to hAz).pick (ws' := [((a 200), f_m a g), ((a 204), .inr (5, [.int 0, .ref (g 100), .int 0]))]) [0, 1] (by decide) rfl
  have hFc := AnA (ws := [((a 200), f_m a g), ((a 204), .inr (5, [.int 0, .ref (g 100), .int 0]))]) hS.1
  refine va_calli (va_runV (As := [.int p0]) (rest := [.ref (a 200)]) ⟨hx, hb, hml, hown, ht⟩ (k_X15_isFault l D g z0 _ a p0) (cwV 1 ht (gV w_372 w_374 w_375 w_334 w_373) rfl rfl rfl (by decide +kernel) (le2 rfl rfl)) ⟨PP.blind, va_recv hK.1 hP (ci := 21) (q0 := 0) rfl rfl, PP.mk' hK hZ hz hAz hS hPc hDc⟩ rfl rfl hl.1 rfl (lv_room (Nat.le_of_ble_eq_true rfl)) dX15_isNoStuck_3 (le2 rfl rfl)) hS (fun q _ h => hFc q h) hFc (fun r u t H locs ht1 hvm hw hB hz1 hk1 hS => ?_)
  obtain ⟨rfl, hw⟩ := hw
  have hP := ro1 hP hk1
  refine lv_if_ne (tgt := 13) hx hb dX15_isNoStuck_6 (by decide) (fun c_1 => ?_) (fun c_1 => ?_)
  · exact absurd c_1 (by decide)
  · refine lv_iconst (v := 1) hx hb dX15_isNoStuck_9 (by decide) ?_
    refine lv_goto (tgt := 37) hx hb dX15_isNoStuck_10 (by decide) ?_
    have hPc : va_P D vwCl [((a 200), f_m a g)] _ := hP.sub (ws' := [((a 200), f_m a g)]) [0] rfl
    have hDc : va_D (fun q => z0 ≤ q) [((a 200), f_m a g)] := (hD.to hAz).pick (ws' := [((a 200), f_m a g)]) [0] (by decide) rfl
    have hFc := va_free (wc := [((a 200), f_m a g)]) hD hS hA [0] rfl
    refine va_calli (va_runV (As := [.int 1]) (rest := []) ⟨hx, hb, hml, hown, ht⟩ (k_X15_isWrong l D g z0 _ a) (cwV 1 ht (gV w_376 w_378 w_379 w_334 w_377) rfl rfl rfl (by decide +kernel) (le2 rfl rfl)) ⟨PP.blind, va_recv hK.1 hP (ci := 21) (q0 := 0) rfl rfl, PP.mk' hK hZ hz hAz hS hPc hDc⟩ rfl rfl hl.1 rfl (lv_room (Nat.le_of_ble_eq_true rfl)) dX15_isNoStuck_37 (le2 rfl rfl)) hS (fun q _ h => hFc q h) hFc (fun r u t H locs ht1 hvm hw hB hz1 hk1 hS => ?_)
    obtain ⟨rfl, hw⟩ := hw
    obtain ⟨hP1, hD1⟩ := hB
    rw [ht1] at hP1
    obtain ⟨hP, hD⟩ := va_join (wr := [((a 204), .inr (5, [.int 0, .ref (g 100), .int 0]))]) (w1 := [((a 200), .inr (21, [.int 1, .ref (a 201), .ref (a 202), .ref (a 203), .ref (a 204), .ref (a 205), .ref (a 206), .int 0, .int 0, .int 0, .int 0, .ref (a 208), .ref (a 209), .ref (a 210), .ref (a 211), .ref (a 212), .int 4, .int 12, .int (-1), .int 0, .ref (g 200), .ref (a 213), .int 0, .int 97, .ref (a 214), .ref (a 215), .ref (a 207), .null, .int 0]))]) hP hD [0] [1] rfl rfl (by decide) (by decide) hk1 hFc hP1 hD1
    have hP : va_P D vwCl [((a 204), .inr (5, [.int 0, .ref (g 100), .int 0])), ((a 200), .inr (21, [.int 1, .ref (a 201), .ref (a 202), .ref (a 203), .ref (a 204), .ref (a 205), .ref (a 206), .int 0, .int 0, .int 0, .int 0, .ref (a 208), .ref (a 209), .ref (a 210), .ref (a 211), .ref (a 212), .int 4, .int 12, .int (-1), .int 0, .ref (g 200), .ref (a 213), .int 0, .int 97, .ref (a 214), .ref (a 215), .ref (a 207), .null, .int 0]))] H := hP
    have hD : va_D (va_A [((a 200), f_m a g), ((a 204), .inr (5, [.int 0, .ref (g 100), .int 0]))] s.heap.size) [((a 204), .inr (5, [.int 0, .ref (g 100), .int 0])), ((a 200), .inr (21, [.int 1, .ref (a 201), .ref (a 202), .ref (a 203), .ref (a 204), .ref (a 205), .ref (a 206), .int 0, .int 0, .int 0, .int 0, .ref (a 208), .ref (a 209), .ref (a 210), .ref (a 211), .ref (a 212), .int 4, .int 12, .int (-1), .int 0, .ref (g 200), .ref (a 213), .int 0, .int 97, .ref (a 214), .ref (a 215), .ref (a 207), .null, .int 0]))] := hD
    have hP9 := hP.sub (ws' := [((a 204), .inr (5, [.int 0, .ref (g 100), .int 0])), ((a 200), .inr (21, [.int 1, .ref (a 201), .ref (a 202), .ref (a 203), .ref (a 204), .ref (a 205), .ref (a 206), .int 0, .int 0, .int 0, .int 0, .ref (a 208), .ref (a 209), .ref (a 210), .ref (a 211), .ref (a 212), .int 4, .int 12, .int (-1), .int 0, .ref (g 200), .ref (a 213), .int 0, .int 97, .ref (a 214), .ref (a 215), .ref (a 207), .null, .int 0]))]) [0, 1] rfl
    have hD9 := hD.sub (ws' := [((a 204), .inr (5, [.int 0, .ref (g 100), .int 0])), ((a 200), .inr (21, [.int 1, .ref (a 201), .ref (a 202), .ref (a 203), .ref (a 204), .ref (a 205), .ref (a 206), .int 0, .int 0, .int 0, .int 0, .ref (a 208), .ref (a 209), .ref (a 210), .ref (a 211), .ref (a 212), .int 4, .int 12, .int (-1), .int 0, .ref (g 200), .ref (a 213), .int 0, .int 97, .ref (a 214), .ref (a 215), .ref (a 207), .null, .int 0]))]) [0, 1] (by decide) rfl
    refine W.widen (k := 0) (n := 0) (Nat.le_of_ble_eq_true rfl) (Nat.le_of_ble_eq_true rfl) ?_
    exact W.zret (v := 1) hx hb hr rfl (fun t ht9 hW9 => ⟨⟨1, (), rfl, ⟨rfl, trivial⟩, ⟨(by rw [ht9]; exact hP9), hD9⟩⟩, hS.F ht9⟩) hS.2.2 dX15_isNoStuck_40 hlocks
set_option maxHeartbeats 4000000 in
set_option maxRecDepth 100000 in
theorem k_X15_breakChip (l : Launch) (D : va_G) (g : Nat → ClassId) (z0 sz : Nat) (a : Nat → Nat) (p0 : Int32) : Met l yX15_breakChip (.code yX15_breakChip cX15_breakChip 2 (some .int) :: TG) (rmk 3 0 0 64) (va_Pc [.ref (a 200), .int p0] (PP D g z0 sz [((a 200), f_m a g), ((a 204), .inr (5, [.int 0, .ref (g 100), .int 0]))])) (va_Qi (fun (r : Int32) (u : Unit) => (r = 0) ∧ True) (fun (u : Unit) (t : State) => va_P D vwCl [((a 200), .inr (21, [.int 1, .ref (a 201), .ref (a 202), .ref (a 203), .ref (a 204), .ref (a 205), .ref (a 206), .int 0, .int 0, .int 0, .int 0, .ref (a 208), .ref (a 209), .ref (a 210), .ref (a 211), .ref (a 212), .int 4, .int 12, .int (-1), .int 0, .ref (g 200), .ref (a 213), .int 0, .int 97, .ref (a 214), .ref (a 215), .ref (a 207), .null, .int 0]))] t.heap ∧ va_D (va_A [((a 200), f_m a g), ((a 204), .inr (5, [.int 0, .ref (g 100), .int 0]))] sz) [((a 200), .inr (21, [.int 1, .ref (a 201), .ref (a 202), .ref (a 203), .ref (a 204), .ref (a 205), .ref (a 206), .int 0, .int 0, .int 0, .int 0, .ref (a 208), .ref (a 209), .ref (a 210), .ref (a 211), .ref (a 212), .int 4, .int 12, .int (-1), .int 0, .ref (g 200), .ref (a 213), .int 0, .int 97, .ref (a 214), .ref (a 215), .ref (a 207), .null, .int 0]))]) (va_A [((a 200), f_m a g), ((a 204), .inr (5, [.int 0, .ref (g 100), .int 0]))] sz)) 0 0 (va_A [((a 200), f_m a g), ((a 204), .inr (5, [.int 0, .ref (g 100), .int 0]))] sz) := by
  refine met0 (cc := cX15_breakChip) (n := 2) (by decide) (Nat.le_of_ble_eq_true rfl) ?_
  intro p e s m args below meth c hx hb hr hml hown ht hlocks hnm hP0 hD0 hK hZ hsz hz ls hl
  subst hsz
  have hA : ∀ q : Nat, s.heap.size ≤ q → va_A [((a 200), f_m a g), ((a 204), .inr (5, [.int 0, .ref (g 100), .int 0]))] s.heap.size q := Anw
  have hAz : ∀ q, va_A [((a 200), f_m a g), ((a 204), .inr (5, [.int 0, .ref (g 100), .int 0]))] s.heap.size q → z0 ≤ q := Awz hz hD0
  have hS : va_S (va_A [((a 200), f_m a g), ((a 204), .inr (5, [.int 0, .ref (g 100), .int 0]))] s.heap.size) s.heap s.heap [] := va_S.rf
  have hD : va_D (va_A [((a 200), f_m a g), ((a 204), .inr (5, [.int 0, .ref (g 100), .int 0]))] s.heap.size) [((a 200), f_m a g), ((a 204), .inr (5, [.int 0, .ref (g 100), .int 0]))] := hD0.self
  have hP : va_P D vwCl [((a 200), f_m a g), ((a 204), .inr (5, [.int 0, .ref (g 100), .int 0]))] s.heap := hP0
  have hl : lv_has ls 2 [(0, .ref (a 200)), (1, .int p0)] := hl
  refine lv_aload_n hx hb dX15_breakChip_0 rfl (lv_at hl 0 rfl) ?_
  refine lv_iload_n hx hb dX15_breakChip_1 rfl (lv_at hl 1 rfl) ?_
  have hPc : va_P D vwCl [((a 200), f_m a g), ((a 204), .inr (5, [.int 0, .ref (g 100), .int 0]))] _ := hP.sub (ws' := [((a 200), f_m a g), ((a 204), .inr (5, [.int 0, .ref (g 100), .int 0]))]) [0, 1] rfl
  have hDc : va_D (fun q => z0 ≤ q) [((a 200), f_m a g), ((a 204), .inr (5, [.int 0, .ref (g 100), .int 0]))] := (hD.to hAz).pick (ws' := [((a 200), f_m a g), ((a 204), .inr (5, [.int 0, .ref (g 100), .int 0]))]) [0, 1] (by decide) rfl
  have hFc := va_free (wc := [((a 200), f_m a g), ((a 204), .inr (5, [.int 0, .ref (g 100), .int 0]))]) hD hS hA [0, 1] rfl
  refine va_calli (va_runV (As := [.int p0]) (rest := []) ⟨hx, hb, hml, hown, ht⟩ (k_X15_isNoStuck l D g z0 _ a p0) (cwV 1 ht (gV w_384 w_386 w_387 w_334 w_385) rfl rfl rfl (by decide +kernel) (le2 rfl rfl)) ⟨PP.blind, va_recv hK.1 hP (ci := 21) (q0 := 0) rfl rfl, PP.mk' hK hZ hz hAz hS hPc hDc⟩ rfl rfl hl.1 rfl (lv_room (Nat.le_of_ble_eq_true rfl)) dX15_breakChip_2 (le2 rfl rfl)) hS (fun q _ h => hFc q h) hFc (fun r u t H locs ht1 hvm hw hB hz1 hk1 hS => ?_)
  obtain ⟨rfl, hw⟩ := hw
  obtain ⟨hP1, hD1⟩ := hB
  rw [ht1] at hP1
  obtain ⟨hP, hD⟩ := va_join (wr := []) (w1 := [((a 204), .inr (5, [.int 0, .ref (g 100), .int 0])), ((a 200), .inr (21, [.int 1, .ref (a 201), .ref (a 202), .ref (a 203), .ref (a 204), .ref (a 205), .ref (a 206), .int 0, .int 0, .int 0, .int 0, .ref (a 208), .ref (a 209), .ref (a 210), .ref (a 211), .ref (a 212), .int 4, .int 12, .int (-1), .int 0, .ref (g 200), .ref (a 213), .int 0, .int 97, .ref (a 214), .ref (a 215), .ref (a 207), .null, .int 0]))]) hP hD [0, 1] [] rfl rfl (by decide) (by decide) hk1 hFc hP1 hD1
  have hP : va_P D vwCl [((a 204), .inr (5, [.int 0, .ref (g 100), .int 0])), ((a 200), .inr (21, [.int 1, .ref (a 201), .ref (a 202), .ref (a 203), .ref (a 204), .ref (a 205), .ref (a 206), .int 0, .int 0, .int 0, .int 0, .ref (a 208), .ref (a 209), .ref (a 210), .ref (a 211), .ref (a 212), .int 4, .int 12, .int (-1), .int 0, .ref (g 200), .ref (a 213), .int 0, .int 97, .ref (a 214), .ref (a 215), .ref (a 207), .null, .int 0]))] H := hP
  have hD : va_D (va_A [((a 200), f_m a g), ((a 204), .inr (5, [.int 0, .ref (g 100), .int 0]))] s.heap.size) [((a 204), .inr (5, [.int 0, .ref (g 100), .int 0])), ((a 200), .inr (21, [.int 1, .ref (a 201), .ref (a 202), .ref (a 203), .ref (a 204), .ref (a 205), .ref (a 206), .int 0, .int 0, .int 0, .int 0, .ref (a 208), .ref (a 209), .ref (a 210), .ref (a 211), .ref (a 212), .int 4, .int 12, .int (-1), .int 0, .ref (g 200), .ref (a 213), .int 0, .int 97, .ref (a 214), .ref (a 215), .ref (a 207), .null, .int 0]))] := hD
  refine lv_if_ne (tgt := 33) hx hb dX15_breakChip_5 (by decide) (fun c_1 => ?_) (fun c_1 => ?_)
  · refine lv_iconst (v := 0) hx hb dX15_breakChip_33 (by decide) ?_
    have hP9 := hP.sub (ws' := [((a 200), .inr (21, [.int 1, .ref (a 201), .ref (a 202), .ref (a 203), .ref (a 204), .ref (a 205), .ref (a 206), .int 0, .int 0, .int 0, .int 0, .ref (a 208), .ref (a 209), .ref (a 210), .ref (a 211), .ref (a 212), .int 4, .int 12, .int (-1), .int 0, .ref (g 200), .ref (a 213), .int 0, .int 97, .ref (a 214), .ref (a 215), .ref (a 207), .null, .int 0]))]) [1] rfl
    have hD9 := hD.sub (ws' := [((a 200), .inr (21, [.int 1, .ref (a 201), .ref (a 202), .ref (a 203), .ref (a 204), .ref (a 205), .ref (a 206), .int 0, .int 0, .int 0, .int 0, .ref (a 208), .ref (a 209), .ref (a 210), .ref (a 211), .ref (a 212), .int 4, .int 12, .int (-1), .int 0, .ref (g 200), .ref (a 213), .int 0, .int 97, .ref (a 214), .ref (a 215), .ref (a 207), .null, .int 0]))]) [1] (by decide) rfl
    refine W.widen (k := 0) (n := 0) (Nat.le_of_ble_eq_true rfl) (Nat.le_of_ble_eq_true rfl) ?_
    exact W.iret (v := 0) hx hb hr (fun t ht9 hW9 => ⟨⟨0, (), rfl, ⟨rfl, trivial⟩, ⟨(by rw [ht9]; exact hP9), hD9⟩⟩, hS.F ht9⟩) hS.2.2 dX15_breakChip_34 hlocks
  · exact absurd c_1 (by decide)
set_option maxHeartbeats 4000000 in
set_option maxRecDepth 100000 in
theorem k_J0_isLatin1_aae02 (l : Launch) (D : va_G) (g : Nat → ClassId) (z0 sz : Nat) (a : Nat → Nat) : Met l yJ0_isLatin1_aae02 (.code yJ0_isLatin1_aae02 cJ0_isLatin1_aae02 1 (some .boolean) :: TG) (rmk 0 0 0 0) (va_Pc [.ref (g 202)] (PP D g z0 sz [])) (va_Qi (fun (r : Int32) (u : Unit) => (r = 1) ∧ True) (fun (_ : Unit) (_ : State) => True) (va_A [] sz)) 0 0 (va_A [] sz) := by
  refine met0 (cc := cJ0_isLatin1_aae02) (n := 1) (by decide) (Nat.le_of_ble_eq_true rfl) ?_
  intro p e s m args below meth c hx hb hr hml hown ht hlocks hnm hP0 hD0 hK hZ hsz hz ls hl
  subst hsz
  have hA : ∀ q : Nat, s.heap.size ≤ q → va_A [] s.heap.size q := Anw
  have hAz : ∀ q, va_A [] s.heap.size q → z0 ≤ q := A0z hz
  have hS : va_S (va_A [] s.heap.size) s.heap s.heap [] := va_S.rf
  have hl : lv_has ls 1 [(0, .ref (g 202))] := hl
  refine va_gets (C := "java/lang/String") (n := "COMPACT_STRINGS") (d := "Z") (v := .int 1) hx hb (hZ.m hAz).2.2.2.1 hS hown (ht _ w_388) (fun _ h9 => h9) dJ0_isLatin1_aae02_0 ?_
  refine lv_if_eq (tgt := 17) hx hb dJ0_isLatin1_aae02_3 (by decide) (fun c_1 => ?_) (fun c_1 => ?_)
  · exact absurd c_1 (by decide)
  · refine lv_aload_n hx hb dJ0_isLatin1_aae02_6 rfl (lv_at hl 0 rfl) ?_
    refine vk_getf (v := .int 0) hx hb ((hZ.m hAz).2.2.1.1 2 (by decide)).2.1 hS hown (ht _ w_389) (fun _ h9 => h9) dJ0_isLatin1_aae02_7 ?_
    refine lv_if_ne (tgt := 17) hx hb dJ0_isLatin1_aae02_10 (by decide) (fun c_2 => ?_) (fun c_2 => ?_)
    · exact absurd c_2 (by decide)
    · refine lv_iconst (v := 1) hx hb dJ0_isLatin1_aae02_13 (by decide) ?_
      refine lv_goto (tgt := 18) hx hb dJ0_isLatin1_aae02_14 (by decide) ?_
      refine W.widen (k := 0) (n := 0) (Nat.le_of_ble_eq_true rfl) (Nat.le_of_ble_eq_true rfl) ?_
      exact W.zret (v := 1) hx hb hr rfl (fun t ht9 hW9 => ⟨⟨1, (), rfl, ⟨rfl, trivial⟩, trivial⟩, hS.F ht9⟩) hS.2.2 dJ0_isLatin1_aae02_18 hlocks
set_option maxHeartbeats 4000000 in
set_option maxRecDepth 100000 in
theorem k_J0_coder_7d493 (l : Launch) (D : va_G) (g : Nat → ClassId) (z0 sz : Nat) (a : Nat → Nat) : Met l yJ0_coder_7d493 (.code yJ0_coder_7d493 cJ0_coder_7d493 1 (some .byte) :: TG) (rmk 0 0 0 0) (va_Pc [.ref (g 202)] (PP D g z0 sz [])) (va_Qi (fun (r : Int32) (u : Unit) => (r = 0) ∧ True) (fun (_ : Unit) (_ : State) => True) (va_A [] sz)) 0 0 (va_A [] sz) := by
  refine met0 (cc := cJ0_coder_7d493) (n := 1) (by decide) (Nat.le_of_ble_eq_true rfl) ?_
  intro p e s m args below meth c hx hb hr hml hown ht hlocks hnm hP0 hD0 hK hZ hsz hz ls hl
  subst hsz
  have hA : ∀ q : Nat, s.heap.size ≤ q → va_A [] s.heap.size q := Anw
  have hAz : ∀ q, va_A [] s.heap.size q → z0 ≤ q := A0z hz
  have hS : va_S (va_A [] s.heap.size) s.heap s.heap [] := va_S.rf
  have hl : lv_has ls 1 [(0, .ref (g 202))] := hl
  refine va_gets (C := "java/lang/String") (n := "COMPACT_STRINGS") (d := "Z") (v := .int 1) hx hb (hZ.m hAz).2.2.2.1 hS hown (ht _ w_388) (fun _ h9 => h9) dJ0_coder_7d493_0 ?_
  refine lv_if_eq (tgt := 13) hx hb dJ0_coder_7d493_3 (by decide) (fun c_1 => ?_) (fun c_1 => ?_)
  · exact absurd c_1 (by decide)
  · refine lv_aload_n hx hb dJ0_coder_7d493_6 rfl (lv_at hl 0 rfl) ?_
    refine vk_getf (v := .int 0) hx hb ((hZ.m hAz).2.2.1.1 2 (by decide)).2.1 hS hown (ht _ w_389) (fun _ h9 => h9) dJ0_coder_7d493_7 ?_
    refine lv_goto (tgt := 14) hx hb dJ0_coder_7d493_10 (by decide) ?_
    refine W.widen (k := 0) (n := 0) (Nat.le_of_ble_eq_true rfl) (Nat.le_of_ble_eq_true rfl) ?_
    exact W.zret (v := 0) hx hb hr rfl (fun t ht9 hW9 => ⟨⟨0, (), rfl, ⟨rfl, trivial⟩, trivial⟩, hS.F ht9⟩) hS.2.2 dJ0_coder_7d493_14 hlocks
set_option maxHeartbeats 4000000 in
set_option maxRecDepth 100000 in
theorem k_J0_length_8abf5 (l : Launch) (D : va_G) (g : Nat → ClassId) (z0 sz : Nat) (a : Nat → Nat) : Met l yJ0_length_8abf5 (.code yJ0_length_8abf5 cJ0_length_8abf5 1 (some .int) :: TG) (rmk 1 0 0 20) (va_Pc [.ref (g 202)] (PP D g z0 sz [])) (va_Qi (fun (r : Int32) (u : Unit) => (r = 3) ∧ True) (fun (_ : Unit) (_ : State) => True) (va_A [] sz)) 0 0 (va_A [] sz) := by
  refine met0 (cc := cJ0_length_8abf5) (n := 1) (by decide) (Nat.le_of_ble_eq_true rfl) ?_
  intro p e s m args below meth c hx hb hr hml hown ht hlocks hnm hP0 hD0 hK hZ hsz hz ls hl
  subst hsz
  have hA : ∀ q : Nat, s.heap.size ≤ q → va_A [] s.heap.size q := Anw
  have hAz : ∀ q, va_A [] s.heap.size q → z0 ≤ q := A0z hz
  have hS : va_S (va_A [] s.heap.size) s.heap s.heap [] := va_S.rf
  have hl : lv_has ls 1 [(0, .ref (g 202))] := hl
  refine lv_aload_n hx hb dJ0_length_8abf5_0 rfl (lv_at hl 0 rfl) ?_
  refine vk_getf (v := .ref (g 302)) hx hb ((hZ.m hAz).2.2.1.1 2 (by decide)).2.2.1 hS hown (ht _ w_395) (fun _ h9 => h9) dJ0_length_8abf5_1 ?_
  refine va_tlen (v := 3) hx hb ((hZ.m hAz).2.2.1.1 2 (by decide)).2.2.2 hS rfl dJ0_length_8abf5_4 ?_
  refine lv_aload_n hx hb dJ0_length_8abf5_5 rfl (lv_at hl 0 rfl) ?_
  have hPc : va_P D vwCl [] _ := (ro0 hP0 hS).sub (ws' := []) [] rfl
  have hDc : va_D (fun q => z0 ≤ q) [] := hD0.pick (ws' := []) [] (by decide) rfl
  have hFc := AnA (ws := []) hS.1
  refine va_calli (va_runV (As := []) (rest := [.int 3]) ⟨hx, hb, hml, hown, ht⟩ (k_J0_coder_7d493 l D g z0 _ a) (cwV 0 ht (gV w_396 w_398 w_399 w_394 w_397) rfl rfl rfl (by decide +kernel) (le2 rfl rfl)) ⟨PP.blind, vk_recv (i := 2) (hZ.m hAz).2.2.1 (by decide) hS, PP.mk' hK hZ hz hAz hS hPc hDc⟩ rfl rfl hl.1 rfl (lv_room (Nat.le_of_ble_eq_true rfl)) dJ0_length_8abf5_6 (le2 rfl rfl)) hS (fun q _ h => hFc q h) hFc (fun r u t H locs ht1 hvm hw hB hz1 hk1 hS => ?_)
  obtain ⟨rfl, hw⟩ := hw
  refine lv_ishr hx hb dJ0_length_8abf5_9 ?_
  refine r_topi (v := 3) (by decide) ?_
  refine W.widen (k := 0) (n := 0) (Nat.le_of_ble_eq_true rfl) (Nat.le_of_ble_eq_true rfl) ?_
  exact W.iret (v := 3) hx hb hr (fun t ht9 hW9 => ⟨⟨3, (), rfl, ⟨rfl, trivial⟩, trivial⟩, hS.F ht9⟩) hS.2.2 dJ0_length_8abf5_10 hlocks
set_option maxHeartbeats 4000000 in
set_option maxRecDepth 100000 in
theorem k_J1_canEncode_9a6ad (l : Launch) (D : va_G) (g : Nat → ClassId) (z0 sz : Nat) (a : Nat → Nat) (p0 : Int32) : Met l yJ1_canEncode_9a6ad (.code yJ1_canEncode_9a6ad cJ1_canEncode_9a6ad 1 (some .boolean) :: TG) (rmk 0 0 0 0) (va_Pc [.int p0] (PP D g z0 sz [])) (va_Qi (fun (r : Int32) (u : Unit) => ((r = 0) ∧ ((p0 < 0) ∨ ((¬ p0 < 0) ∧ ((255 : Int32) < p0)))) ∨ ((r = 1) ∧ ((¬ p0 < 0) ∧ (¬ (255 : Int32) < p0)))) (fun (_ : Unit) (_ : State) => True) (va_A [] sz)) 0 0 (va_A [] sz) := by
  refine met0 (cc := cJ1_canEncode_9a6ad) (n := 1) (by decide) (Nat.le_of_ble_eq_true rfl) ?_
  intro p e s m args below meth c hx hb hr hml hown ht hlocks hnm hP0 hD0 hK hZ hsz hz ls hl
  subst hsz
  have hA : ∀ q : Nat, s.heap.size ≤ q → va_A [] s.heap.size q := Anw
  have hAz : ∀ q, va_A [] s.heap.size q → z0 ≤ q := A0z hz
  have hS : va_S (va_A [] s.heap.size) s.heap s.heap [] := va_S.rf
  have hl : lv_has ls 1 [(0, .int p0)] := hl
  refine lv_iload_n hx hb dJ1_canEncode_9a6ad_0 rfl (lv_at hl 0 rfl) ?_
  refine lv_if_lt (tgt := 15) hx hb dJ1_canEncode_9a6ad_1 (by decide) (fun c_1 => ?_) (fun c_1 => ?_)
  · refine lv_iconst (v := 0) hx hb dJ1_canEncode_9a6ad_15 (by decide) ?_
    refine W.widen (k := 0) (n := 0) (Nat.le_of_ble_eq_true rfl) (Nat.le_of_ble_eq_true rfl) ?_
    exact W.zret (v := 0) hx hb hr rfl (fun t ht9 hW9 => ⟨⟨0, (), rfl, (Or.inl ⟨rfl, (Or.inl c_1)⟩), trivial⟩, hS.F ht9⟩) hS.2.2 dJ1_canEncode_9a6ad_16 hlocks
  · refine lv_iload_n hx hb dJ1_canEncode_9a6ad_4 rfl (lv_at hl 0 rfl) ?_
    refine lv_sipush (v := 255) hx hb dJ1_canEncode_9a6ad_5 (by decide) ?_
    refine lv_icmp_gt (tgt := 15) hx hb dJ1_canEncode_9a6ad_8 (by decide) (fun c_2 => ?_) (fun c_2 => ?_)
    · refine lv_iconst (v := 0) hx hb dJ1_canEncode_9a6ad_15 (by decide) ?_
      refine W.widen (k := 0) (n := 0) (Nat.le_of_ble_eq_true rfl) (Nat.le_of_ble_eq_true rfl) ?_
      exact W.zret (v := 0) hx hb hr rfl (fun t ht9 hW9 => ⟨⟨0, (), rfl, (Or.inl ⟨rfl, (Or.inr ⟨c_1, c_2⟩)⟩), trivial⟩, hS.F ht9⟩) hS.2.2 dJ1_canEncode_9a6ad_16 hlocks
    · refine lv_iconst (v := 1) hx hb dJ1_canEncode_9a6ad_11 (by decide) ?_
      refine lv_goto (tgt := 16) hx hb dJ1_canEncode_9a6ad_12 (by decide) ?_
      refine W.widen (k := 0) (n := 0) (Nat.le_of_ble_eq_true rfl) (Nat.le_of_ble_eq_true rfl) ?_
      exact W.zret (v := 1) hx hb hr rfl (fun t ht9 hW9 => ⟨⟨1, (), rfl, (Or.inr ⟨rfl, ⟨c_1, c_2⟩⟩), trivial⟩, hS.F ht9⟩) hS.2.2 dJ1_canEncode_9a6ad_16 hlocks
set_option maxHeartbeats 4000000 in
set_option maxRecDepth 100000 in
theorem k_J1_indexOfChar_4cfef (l : Launch) (D : va_G) (g : Nat → ClassId) (z0 sz : Nat) (a : Nat → Nat) (p0 : Int32) : Met l yJ1_indexOfChar_4cfef (.code yJ1_indexOfChar_4cfef cJ1_indexOfChar_4cfef 6 (some .int) :: TG) (rmk 0 0 0 0) (va_Pc [.ref (g 302), .int p0, .int 0, .int 3] (PP D g z0 sz [])) (va_Qi (fun (r : Int32) (u : Unit) => ((r = (-1)) ∧ ((¬ 119 = p0.toInt8.toInt32) ∧ (¬ 117 = p0.toInt8.toInt32) ∧ (¬ 100 = p0.toInt8.toInt32))) ∨ ((r = 2) ∧ ((¬ 119 = p0.toInt8.toInt32) ∧ (¬ 117 = p0.toInt8.toInt32) ∧ (100 = p0.toInt8.toInt32))) ∨ ((r = 1) ∧ ((¬ 119 = p0.toInt8.toInt32) ∧ (117 = p0.toInt8.toInt32))) ∨ ((r = 0) ∧ (119 = p0.toInt8.toInt32))) (fun (_ : Unit) (_ : State) => True) (va_A [] sz)) 0 0 (va_A [] sz) := by
  refine met0 (cc := cJ1_indexOfChar_4cfef) (n := 6) (by decide) (Nat.le_of_ble_eq_true rfl) ?_
  intro p e s m args below meth c hx hb hr hml hown ht hlocks hnm hP0 hD0 hK hZ hsz hz ls hl
  subst hsz
  have hA : ∀ q : Nat, s.heap.size ≤ q → va_A [] s.heap.size q := Anw
  have hAz : ∀ q, va_A [] s.heap.size q → z0 ≤ q := A0z hz
  have hS : va_S (va_A [] s.heap.size) s.heap s.heap [] := va_S.rf
  have hl : lv_has ls 6 [(0, .ref (g 302)), (1, .int p0), (2, .int 0), (3, .int 3)] := hl
  refine lv_iload_n hx hb dJ1_indexOfChar_4cfef_0 rfl (lv_at hl 1 rfl) ?_
  refine lv_i2b (v := p0.toInt8.toInt32) hx hb dJ1_indexOfChar_4cfef_1 rfl ?_
  refine lv_istore (lv' := [(4, .int p0.toInt8.toInt32), (0, .ref (g 302)), (1, .int p0), (2, .int 0), (3, .int 3)]) hx hb dJ1_indexOfChar_4cfef_2 hl (by decide) rfl (fun ls hl => ?_)
  refine lv_iload_n hx hb dJ1_indexOfChar_4cfef_4 rfl (lv_at hl 3 rfl) ?_
  refine lv_istore (lv' := [(5, .int 0), (4, .int p0.toInt8.toInt32), (0, .ref (g 302)), (1, .int p0), (2, .int 0), (3, .int 3)]) hx hb dJ1_indexOfChar_4cfef_5 hl (by decide) rfl (fun ls hl => ?_)
  refine lv_iload hx hb dJ1_indexOfChar_4cfef_7 (lv_at hl 0 rfl) ?_
  refine lv_iload_n hx hb dJ1_indexOfChar_4cfef_9 rfl (lv_at hl 5 rfl) ?_
  refine lv_icmp_ge (tgt := 31) hx hb dJ1_indexOfChar_4cfef_10 (by decide) (fun c_1 => ?_) (fun c_1 => ?_)
  · exact absurd c_1 (by decide)
  · refine lv_aload_n hx hb dJ1_indexOfChar_4cfef_13 rfl (lv_at hl 2 rfl) ?_
    refine lv_iload hx hb dJ1_indexOfChar_4cfef_14 (lv_at hl 0 rfl) ?_
    refine va_tb (v := .int 119) hx hb ((hZ.m hAz).2.2.1.1 2 (by decide)).2.2.2 hS (by unfold vp_in; decide) rfl dJ1_indexOfChar_4cfef_16 ?_
    refine lv_iload hx hb dJ1_indexOfChar_4cfef_17 (lv_at hl 1 rfl) ?_
    refine lv_icmp_ne (tgt := 25) hx hb dJ1_indexOfChar_4cfef_19 (by decide) (fun c_2 => ?_) (fun c_2 => ?_)
    · refine lv_iinc (v := 1) (lv' := [(5, .int 1), (4, .int p0.toInt8.toInt32), (0, .ref (g 302)), (1, .int p0), (2, .int 0), (3, .int 3)]) hx hb dJ1_indexOfChar_4cfef_25 hl (k := 0) rfl (by decide) (by decide) rfl (fun ls hl => ?_)
      refine lv_goto (tgt := 7) hx hb dJ1_indexOfChar_4cfef_28 (by decide) ?_
      refine lv_iload hx hb dJ1_indexOfChar_4cfef_7 (lv_at hl 0 rfl) ?_
      refine lv_iload_n hx hb dJ1_indexOfChar_4cfef_9 rfl (lv_at hl 5 rfl) ?_
      refine lv_icmp_ge (tgt := 31) hx hb dJ1_indexOfChar_4cfef_10 (by decide) (fun c_3 => ?_) (fun c_3 => ?_)
      · exact absurd c_3 (by decide)
      · refine lv_aload_n hx hb dJ1_indexOfChar_4cfef_13 rfl (lv_at hl 2 rfl) ?_
        refine lv_iload hx hb dJ1_indexOfChar_4cfef_14 (lv_at hl 0 rfl) ?_
        refine va_tb (v := .int 117) hx hb ((hZ.m hAz).2.2.1.1 2 (by decide)).2.2.2 hS (by unfold vp_in; decide) rfl dJ1_indexOfChar_4cfef_16 ?_
        refine lv_iload hx hb dJ1_indexOfChar_4cfef_17 (lv_at hl 1 rfl) ?_
        refine lv_icmp_ne (tgt := 25) hx hb dJ1_indexOfChar_4cfef_19 (by decide) (fun c_4 => ?_) (fun c_4 => ?_)
        · refine lv_iinc (v := 2) (lv' := [(5, .int 2), (4, .int p0.toInt8.toInt32), (0, .ref (g 302)), (1, .int p0), (2, .int 0), (3, .int 3)]) hx hb dJ1_indexOfChar_4cfef_25 hl (k := 0) rfl (by decide) (by decide) rfl (fun ls hl => ?_)
          refine lv_goto (tgt := 7) hx hb dJ1_indexOfChar_4cfef_28 (by decide) ?_
          refine lv_iload hx hb dJ1_indexOfChar_4cfef_7 (lv_at hl 0 rfl) ?_
          refine lv_iload_n hx hb dJ1_indexOfChar_4cfef_9 rfl (lv_at hl 5 rfl) ?_
          refine lv_icmp_ge (tgt := 31) hx hb dJ1_indexOfChar_4cfef_10 (by decide) (fun c_5 => ?_) (fun c_5 => ?_)
          · exact absurd c_5 (by decide)
          · refine lv_aload_n hx hb dJ1_indexOfChar_4cfef_13 rfl (lv_at hl 2 rfl) ?_
            refine lv_iload hx hb dJ1_indexOfChar_4cfef_14 (lv_at hl 0 rfl) ?_
            refine va_tb (v := .int 100) hx hb ((hZ.m hAz).2.2.1.1 2 (by decide)).2.2.2 hS (by unfold vp_in; decide) rfl dJ1_indexOfChar_4cfef_16 ?_
            refine lv_iload hx hb dJ1_indexOfChar_4cfef_17 (lv_at hl 1 rfl) ?_
            refine lv_icmp_ne (tgt := 25) hx hb dJ1_indexOfChar_4cfef_19 (by decide) (fun c_6 => ?_) (fun c_6 => ?_)
            · refine lv_iinc (v := 3) (lv' := [(5, .int 3), (4, .int p0.toInt8.toInt32), (0, .ref (g 302)), (1, .int p0), (2, .int 0), (3, .int 3)]) hx hb dJ1_indexOfChar_4cfef_25 hl (k := 0) rfl (by decide) (by decide) rfl (fun ls hl => ?_)
              refine lv_goto (tgt := 7) hx hb dJ1_indexOfChar_4cfef_28 (by decide) ?_
              refine lv_iload hx hb dJ1_indexOfChar_4cfef_7 (lv_at hl 0 rfl) ?_
              refine lv_iload_n hx hb dJ1_indexOfChar_4cfef_9 rfl (lv_at hl 5 rfl) ?_
              refine lv_icmp_ge (tgt := 31) hx hb dJ1_indexOfChar_4cfef_10 (by decide) (fun c_7 => ?_) (fun c_7 => ?_)
              · refine lv_iconst (v := (-1)) hx hb dJ1_indexOfChar_4cfef_31 (by decide) ?_
                refine W.widen (k := 0) (n := 0) (Nat.le_of_ble_eq_true rfl) (Nat.le_of_ble_eq_true rfl) ?_
                exact W.iret (v := (-1)) hx hb hr (fun t ht9 hW9 => ⟨⟨(-1), (), rfl, (Or.inl ⟨rfl, ⟨c_2, c_4, c_6⟩⟩), trivial⟩, hS.F ht9⟩) hS.2.2 dJ1_indexOfChar_4cfef_32 hlocks
              · exact absurd c_7 (by decide)
            · refine lv_iload hx hb dJ1_indexOfChar_4cfef_22 (lv_at hl 0 rfl) ?_
              refine W.widen (k := 0) (n := 0) (Nat.le_of_ble_eq_true rfl) (Nat.le_of_ble_eq_true rfl) ?_
              exact W.iret (v := 2) hx hb hr (fun t ht9 hW9 => ⟨⟨2, (), rfl, (Or.inr (Or.inl ⟨rfl, ⟨c_2, c_4, c_6⟩⟩)), trivial⟩, hS.F ht9⟩) hS.2.2 dJ1_indexOfChar_4cfef_24 hlocks
        · refine lv_iload hx hb dJ1_indexOfChar_4cfef_22 (lv_at hl 0 rfl) ?_
          refine W.widen (k := 0) (n := 0) (Nat.le_of_ble_eq_true rfl) (Nat.le_of_ble_eq_true rfl) ?_
          exact W.iret (v := 1) hx hb hr (fun t ht9 hW9 => ⟨⟨1, (), rfl, (Or.inr (Or.inr (Or.inl ⟨rfl, ⟨c_2, c_4⟩⟩))), trivial⟩, hS.F ht9⟩) hS.2.2 dJ1_indexOfChar_4cfef_24 hlocks
    · refine lv_iload hx hb dJ1_indexOfChar_4cfef_22 (lv_at hl 0 rfl) ?_
      refine W.widen (k := 0) (n := 0) (Nat.le_of_ble_eq_true rfl) (Nat.le_of_ble_eq_true rfl) ?_
      exact W.iret (v := 0) hx hb hr (fun t ht9 hW9 => ⟨⟨0, (), rfl, (Or.inr (Or.inr (Or.inr ⟨rfl, c_2⟩))), trivial⟩, hS.F ht9⟩) hS.2.2 dJ1_indexOfChar_4cfef_24 hlocks
set_option maxHeartbeats 4000000 in
set_option maxRecDepth 100000 in
theorem k_J1_indexOf_4cfef (l : Launch) (D : va_G) (g : Nat → ClassId) (z0 sz : Nat) (a : Nat → Nat) (p0 : Int32) : Met l yJ1_indexOf_4cfef (.code yJ1_indexOf_4cfef cJ1_indexOf_4cfef 4 (some .int) :: TG) (rmk 1 0 0 25) (va_Pc [.ref (g 302), .int p0, .int 0, .int 3] (PP D g z0 sz [])) (va_Qi (fun (r : Int32) (u : Unit) => ((r = (-1)) ∧ ((p0 < 0) ∨ ((¬ p0 < 0) ∧ ((255 : Int32) < p0)) ∨ ((¬ p0 < 0) ∧ (¬ (255 : Int32) < p0) ∧ (¬ 119 = p0.toInt8.toInt32) ∧ (¬ 117 = p0.toInt8.toInt32) ∧ (¬ 100 = p0.toInt8.toInt32)))) ∨ ((r = 2) ∧ ((¬ p0 < 0) ∧ (¬ (255 : Int32) < p0) ∧ (¬ 119 = p0.toInt8.toInt32) ∧ (¬ 117 = p0.toInt8.toInt32) ∧ (100 = p0.toInt8.toInt32))) ∨ ((r = 1) ∧ ((¬ p0 < 0) ∧ (¬ (255 : Int32) < p0) ∧ (¬ 119 = p0.toInt8.toInt32) ∧ (117 = p0.toInt8.toInt32))) ∨ ((r = 0) ∧ ((¬ p0 < 0) ∧ (¬ (255 : Int32) < p0) ∧ (119 = p0.toInt8.toInt32)))) (fun (_ : Unit) (_ : State) => True) (va_A [] sz)) 0 0 (va_A [] sz) := by
  refine met0 (cc := cJ1_indexOf_4cfef) (n := 4) (by decide) (Nat.le_of_ble_eq_true rfl) ?_
  intro p e s m args below meth c hx hb hr hml hown ht hlocks hnm hP0 hD0 hK hZ hsz hz ls hl
  subst hsz
  have hA : ∀ q : Nat, s.heap.size ≤ q → va_A [] s.heap.size q := Anw
  have hAz : ∀ q, va_A [] s.heap.size q → z0 ≤ q := A0z hz
  have hS : va_S (va_A [] s.heap.size) s.heap s.heap [] := va_S.rf
  have hl : lv_has ls 4 [(0, .ref (g 302)), (1, .int p0), (2, .int 0), (3, .int 3)] := hl
  refine lv_iload_n hx hb dJ1_indexOf_4cfef_0 rfl (lv_at hl 1 rfl) ?_
  have hPc : va_P D vwCl [] _ := (ro0 hP0 hS).sub (ws' := []) [] rfl
  have hDc : va_D (fun q => z0 ≤ q) [] := hD0.pick (ws' := []) [] (by decide) rfl
  have hFc := AnA (ws := []) hS.1
  refine va_calli (va_runS (As := [.int p0]) (rest := []) ⟨hx, hb, hml, hown, ht⟩ (k_J1_canEncode_9a6ad l D g z0 _ a p0) (va_cwS 1 ht (gS w_404 w_406 w_407 w_405) rfl rfl rfl (by decide +kernel) (le2 rfl rfl)) ⟨PP.blind, PP.mk' hK hZ hz hAz hS hPc hDc⟩ rfl rfl hl.1 rfl (lv_room (Nat.le_of_ble_eq_true rfl)) dJ1_indexOf_4cfef_1 (le2 rfl rfl)) hS (fun q _ h => hFc q h) hFc (fun r u t H locs ht1 hvm hw hB hz1 hk1 hS => ?_)
  rcases hw with hw | hw
  · obtain ⟨rfl, hw⟩ := hw
    rcases hw with hw | hw
    · have c_1 := hw
      refine lv_if_ne (tgt := 9) hx hb dJ1_indexOf_4cfef_4 (by decide) (fun c_2 => ?_) (fun c_2 => ?_)
      · exact absurd c_2 (by decide)
      · refine lv_iconst (v := (-1)) hx hb dJ1_indexOf_4cfef_7 (by decide) ?_
        refine W.widen (k := 0) (n := 0) (Nat.le_of_ble_eq_true rfl) (Nat.le_of_ble_eq_true rfl) ?_
        exact W.iret (v := (-1)) hx hb hr (fun t ht9 hW9 => ⟨⟨(-1), (), rfl, (Or.inl ⟨rfl, (Or.inl c_1)⟩), trivial⟩, hS.F ht9⟩) hS.2.2 dJ1_indexOf_4cfef_8 hlocks
    · obtain ⟨c_3, c_4⟩ := hw
      refine lv_if_ne (tgt := 9) hx hb dJ1_indexOf_4cfef_4 (by decide) (fun c_5 => ?_) (fun c_5 => ?_)
      · exact absurd c_5 (by decide)
      · refine lv_iconst (v := (-1)) hx hb dJ1_indexOf_4cfef_7 (by decide) ?_
        refine W.widen (k := 0) (n := 0) (Nat.le_of_ble_eq_true rfl) (Nat.le_of_ble_eq_true rfl) ?_
        exact W.iret (v := (-1)) hx hb hr (fun t ht9 hW9 => ⟨⟨(-1), (), rfl, (Or.inl ⟨rfl, (Or.inr (Or.inl ⟨c_3, c_4⟩))⟩), trivial⟩, hS.F ht9⟩) hS.2.2 dJ1_indexOf_4cfef_8 hlocks
  · obtain ⟨rfl, hw⟩ := hw
    obtain ⟨c_6, c_7⟩ := hw
    refine lv_if_ne (tgt := 9) hx hb dJ1_indexOf_4cfef_4 (by decide) (fun c_8 => ?_) (fun c_8 => ?_)
    · refine lv_iload_n hx hb dJ1_indexOf_4cfef_9 rfl (lv_at hl 2 rfl) ?_
      refine lv_iconst (v := 0) hx hb dJ1_indexOf_4cfef_10 (by decide) ?_
      refine va_mmax hx hb (hml.trans hl.1.symm) hown (ht _ w_408) (ht _ w_409) (ht _ w_410) (ht _ w_411) (Nat.le_of_ble_eq_true rfl) (Nat.le_of_ble_eq_true rfl) (Nat.le_of_ble_eq_true rfl) (Nat.le_of_ble_eq_true rfl) dJ1_indexOf_4cfef_11 ?_
      refine r_topi (v := 0) (by decide) ?_
      refine lv_istore_n (lv' := [(2, .int 0), (0, .ref (g 302)), (1, .int p0), (3, .int 3)]) hx hb dJ1_indexOf_4cfef_14 rfl hl (by decide) rfl (fun ls hl => ?_)
      refine lv_iload_n hx hb dJ1_indexOf_4cfef_15 rfl (lv_at hl 3 rfl) ?_
      refine lv_aload_n hx hb dJ1_indexOf_4cfef_16 rfl (lv_at hl 1 rfl) ?_
      refine va_tlen (v := 3) hx hb ((hZ.m hAz).2.2.1.1 2 (by decide)).2.2.2 hS rfl dJ1_indexOf_4cfef_17 ?_
      refine va_mmin hx hb (hml.trans hl.1.symm) hown (ht _ w_412) (ht _ w_413) (ht _ w_410) (ht _ w_414) (Nat.le_of_ble_eq_true rfl) (Nat.le_of_ble_eq_true rfl) (Nat.le_of_ble_eq_true rfl) (Nat.le_of_ble_eq_true rfl) dJ1_indexOf_4cfef_18 ?_
      refine r_topi (v := 3) (by decide) ?_
      refine lv_istore_n (lv' := [(3, .int 3), (2, .int 0), (0, .ref (g 302)), (1, .int p0)]) hx hb dJ1_indexOf_4cfef_21 rfl hl (by decide) rfl (fun ls hl => ?_)
      refine lv_iload_n hx hb dJ1_indexOf_4cfef_22 rfl (lv_at hl 1 rfl) ?_
      refine lv_iload_n hx hb dJ1_indexOf_4cfef_23 rfl (lv_at hl 0 rfl) ?_
      refine lv_icmp_lt (tgt := 29) hx hb dJ1_indexOf_4cfef_24 (by decide) (fun c_9 => ?_) (fun c_9 => ?_)
      · refine lv_aload_n hx hb dJ1_indexOf_4cfef_29 rfl (lv_at hl 2 rfl) ?_
        refine lv_iload_n hx hb dJ1_indexOf_4cfef_30 rfl (lv_at hl 3 rfl) ?_
        refine lv_iload_n hx hb dJ1_indexOf_4cfef_31 rfl (lv_at hl 1 rfl) ?_
        refine lv_iload_n hx hb dJ1_indexOf_4cfef_32 rfl (lv_at hl 0 rfl) ?_
        have hPc : va_P D vwCl [] _ := (ro0 hP0 hS).sub (ws' := []) [] rfl
        have hDc : va_D (fun q => z0 ≤ q) [] := hD0.pick (ws' := []) [] (by decide) rfl
        have hFc := AnA (ws := []) hS.1
        refine va_calli (va_runS (As := [.ref (g 302), .int p0, .int 0, .int 3]) (rest := []) ⟨hx, hb, hml, hown, ht⟩ (k_J1_indexOfChar_4cfef l D g z0 _ a p0) (va_cwS 4 ht (gS w_415 w_417 w_407 w_416) rfl rfl rfl (by decide +kernel) (le2 rfl rfl)) ⟨PP.blind, PP.mk' hK hZ hz hAz hS hPc hDc⟩ rfl rfl hl.1 rfl (lv_room (Nat.le_of_ble_eq_true rfl)) dJ1_indexOf_4cfef_33 (le2 rfl rfl)) hS (fun q _ h => hFc q h) hFc (fun r u t H locs ht1 hvm hw hB hz1 hk1 hS => ?_)
        rcases hw with hw | hw | hw | hw
        · obtain ⟨rfl, hw⟩ := hw
          obtain ⟨c_10, c_11, c_12⟩ := hw
          refine W.widen (k := 0) (n := 0) (Nat.le_of_ble_eq_true rfl) (Nat.le_of_ble_eq_true rfl) ?_
          exact W.iret (v := (-1)) hx hb hr (fun t ht9 hW9 => ⟨⟨(-1), (), rfl, (Or.inl ⟨rfl, (Or.inr (Or.inr ⟨c_6, c_7, c_10, c_11, c_12⟩))⟩), trivial⟩, hS.F ht9⟩) hS.2.2 dJ1_indexOf_4cfef_36 hlocks
        · obtain ⟨rfl, hw⟩ := hw
          obtain ⟨c_13, c_14, c_15⟩ := hw
          refine W.widen (k := 0) (n := 0) (Nat.le_of_ble_eq_true rfl) (Nat.le_of_ble_eq_true rfl) ?_
          exact W.iret (v := 2) hx hb hr (fun t ht9 hW9 => ⟨⟨2, (), rfl, (Or.inr (Or.inl ⟨rfl, ⟨c_6, c_7, c_13, c_14, c_15⟩⟩)), trivial⟩, hS.F ht9⟩) hS.2.2 dJ1_indexOf_4cfef_36 hlocks
        · obtain ⟨rfl, hw⟩ := hw
          obtain ⟨c_16, c_17⟩ := hw
          refine W.widen (k := 0) (n := 0) (Nat.le_of_ble_eq_true rfl) (Nat.le_of_ble_eq_true rfl) ?_
          exact W.iret (v := 1) hx hb hr (fun t ht9 hW9 => ⟨⟨1, (), rfl, (Or.inr (Or.inr (Or.inl ⟨rfl, ⟨c_6, c_7, c_16, c_17⟩⟩))), trivial⟩, hS.F ht9⟩) hS.2.2 dJ1_indexOf_4cfef_36 hlocks
        · obtain ⟨rfl, hw⟩ := hw
          have c_18 := hw
          refine W.widen (k := 0) (n := 0) (Nat.le_of_ble_eq_true rfl) (Nat.le_of_ble_eq_true rfl) ?_
          exact W.iret (v := 0) hx hb hr (fun t ht9 hW9 => ⟨⟨0, (), rfl, (Or.inr (Or.inr (Or.inr ⟨rfl, ⟨c_6, c_7, c_18⟩⟩))), trivial⟩, hS.F ht9⟩) hS.2.2 dJ1_indexOf_4cfef_36 hlocks
      · exact absurd c_9 (by decide)
    · exact absurd c_8 (by decide)
set_option maxHeartbeats 4000000 in
set_option maxRecDepth 100000 in
theorem k_J0_indexOf_7cf53 (l : Launch) (D : va_G) (g : Nat → ClassId) (z0 sz : Nat) (a : Nat → Nat) (p0 : Int32) : Met l yJ0_indexOf_7cf53 (.code yJ0_indexOf_7cf53 cJ0_indexOf_7cf53 3 (some .int) :: TG) (rmk 2 0 0 48) (va_Pc [.ref (g 202), .int p0, .int 0] (PP D g z0 sz [])) (va_Qi (fun (r : Int32) (u : Unit) => ((r = (-1)) ∧ ((p0 < 0) ∨ ((¬ p0 < 0) ∧ ((255 : Int32) < p0)) ∨ ((¬ p0 < 0) ∧ (¬ (255 : Int32) < p0) ∧ (¬ 119 = p0.toInt8.toInt32) ∧ (¬ 117 = p0.toInt8.toInt32) ∧ (¬ 100 = p0.toInt8.toInt32)))) ∨ ((r = 2) ∧ ((¬ p0 < 0) ∧ (¬ (255 : Int32) < p0) ∧ (¬ 119 = p0.toInt8.toInt32) ∧ (¬ 117 = p0.toInt8.toInt32) ∧ (100 = p0.toInt8.toInt32))) ∨ ((r = 1) ∧ ((¬ p0 < 0) ∧ (¬ (255 : Int32) < p0) ∧ (¬ 119 = p0.toInt8.toInt32) ∧ (117 = p0.toInt8.toInt32))) ∨ ((r = 0) ∧ ((¬ p0 < 0) ∧ (¬ (255 : Int32) < p0) ∧ (119 = p0.toInt8.toInt32)))) (fun (_ : Unit) (_ : State) => True) (va_A [] sz)) 0 0 (va_A [] sz) := by
  refine met0 (cc := cJ0_indexOf_7cf53) (n := 3) (by decide) (Nat.le_of_ble_eq_true rfl) ?_
  intro p e s m args below meth c hx hb hr hml hown ht hlocks hnm hP0 hD0 hK hZ hsz hz ls hl
  subst hsz
  have hA : ∀ q : Nat, s.heap.size ≤ q → va_A [] s.heap.size q := Anw
  have hAz : ∀ q, va_A [] s.heap.size q → z0 ≤ q := A0z hz
  have hS : va_S (va_A [] s.heap.size) s.heap s.heap [] := va_S.rf
  have hl : lv_has ls 3 [(0, .ref (g 202)), (1, .int p0), (2, .int 0)] := hl
  refine lv_aload_n hx hb dJ0_indexOf_7cf53_0 rfl (lv_at hl 0 rfl) ?_
  have hPc : va_P D vwCl [] _ := (ro0 hP0 hS).sub (ws' := []) [] rfl
  have hDc : va_D (fun q => z0 ≤ q) [] := hD0.pick (ws' := []) [] (by decide) rfl
  have hFc := AnA (ws := []) hS.1
  refine va_calli (va_runV (As := []) (rest := []) ⟨hx, hb, hml, hown, ht⟩ (k_J0_isLatin1_aae02 l D g z0 _ a) (cwV 0 ht (gV w_390 w_392 w_393 w_394 w_391) rfl rfl rfl (by decide +kernel) (le2 rfl rfl)) ⟨PP.blind, vk_recv (i := 2) (hZ.m hAz).2.2.1 (by decide) hS, PP.mk' hK hZ hz hAz hS hPc hDc⟩ rfl rfl hl.1 rfl (lv_room (Nat.le_of_ble_eq_true rfl)) dJ0_indexOf_7cf53_1 (le2 rfl rfl)) hS (fun q _ h => hFc q h) hFc (fun r u t H locs ht1 hvm hw hB hz1 hk1 hS => ?_)
  obtain ⟨rfl, hw⟩ := hw
  refine lv_if_eq (tgt := 23) hx hb dJ0_indexOf_7cf53_4 (by decide) (fun c_1 => ?_) (fun c_1 => ?_)
  · exact absurd c_1 (by decide)
  · refine lv_aload_n hx hb dJ0_indexOf_7cf53_7 rfl (lv_at hl 0 rfl) ?_
    refine vk_getf (v := .ref (g 302)) hx hb ((hZ.m hAz).2.2.1.1 2 (by decide)).2.2.1 hS hown (ht _ w_395) (fun _ h9 => h9) dJ0_indexOf_7cf53_8 ?_
    refine lv_iload_n hx hb dJ0_indexOf_7cf53_11 rfl (lv_at hl 1 rfl) ?_
    refine lv_iload_n hx hb dJ0_indexOf_7cf53_12 rfl (lv_at hl 2 rfl) ?_
    refine lv_aload_n hx hb dJ0_indexOf_7cf53_13 rfl (lv_at hl 0 rfl) ?_
    have hPc : va_P D vwCl [] _ := (ro0 hP0 hS).sub (ws' := []) [] rfl
    have hDc : va_D (fun q => z0 ≤ q) [] := hD0.pick (ws' := []) [] (by decide) rfl
    have hFc := AnA (ws := []) hS.1
    refine va_calli (va_runV (As := []) (rest := [.int 0, .int p0, .ref (g 302)]) ⟨hx, hb, hml, hown, ht⟩ (k_J0_length_8abf5 l D g z0 _ a) (cwV 0 ht (gV w_400 w_402 w_403 w_394 w_401) rfl rfl rfl (by decide +kernel) (le2 rfl rfl)) ⟨PP.blind, vk_recv (i := 2) (hZ.m hAz).2.2.1 (by decide) hS, PP.mk' hK hZ hz hAz hS hPc hDc⟩ rfl rfl hl.1 rfl (lv_room (Nat.le_of_ble_eq_true rfl)) dJ0_indexOf_7cf53_14 (le2 rfl rfl)) hS (fun q _ h => hFc q h) hFc (fun r u t H locs ht1 hvm hw hB hz1 hk1 hS => ?_)
    obtain ⟨rfl, hw⟩ := hw
    have hPc : va_P D vwCl [] _ := (ro0 hP0 hS).sub (ws' := []) [] rfl
    have hDc : va_D (fun q => z0 ≤ q) [] := hD0.pick (ws' := []) [] (by decide) rfl
    have hFc := AnA (ws := []) hS.1
    refine va_calli (va_runS (As := [.ref (g 302), .int p0, .int 0, .int 3]) (rest := []) ⟨hx, hb, hml, hown, ht⟩ (k_J1_indexOf_4cfef l D g z0 _ a p0) (va_cwS 4 ht (gS w_418 w_420 w_407 w_419) rfl rfl rfl (by decide +kernel) (le2 rfl rfl)) ⟨PP.blind, PP.mk' hK hZ hz hAz hS hPc hDc⟩ rfl rfl hl.1 rfl (lv_room (Nat.le_of_ble_eq_true rfl)) dJ0_indexOf_7cf53_17 (le2 rfl rfl)) hS (fun q _ h => hFc q h) hFc (fun r u t H locs ht1 hvm hw hB hz1 hk1 hS => ?_)
    rcases hw with hw | hw | hw | hw
    · obtain ⟨rfl, hw⟩ := hw
      rcases hw with hw | hw | hw
      · have c_2 := hw
        refine lv_goto (tgt := 36) hx hb dJ0_indexOf_7cf53_20 (by decide) ?_
        refine W.widen (k := 0) (n := 0) (Nat.le_of_ble_eq_true rfl) (Nat.le_of_ble_eq_true rfl) ?_
        exact W.iret (v := (-1)) hx hb hr (fun t ht9 hW9 => ⟨⟨(-1), (), rfl, (Or.inl ⟨rfl, (Or.inl c_2)⟩), trivial⟩, hS.F ht9⟩) hS.2.2 dJ0_indexOf_7cf53_36 hlocks
      · obtain ⟨c_3, c_4⟩ := hw
        refine lv_goto (tgt := 36) hx hb dJ0_indexOf_7cf53_20 (by decide) ?_
        refine W.widen (k := 0) (n := 0) (Nat.le_of_ble_eq_true rfl) (Nat.le_of_ble_eq_true rfl) ?_
        exact W.iret (v := (-1)) hx hb hr (fun t ht9 hW9 => ⟨⟨(-1), (), rfl, (Or.inl ⟨rfl, (Or.inr (Or.inl ⟨c_3, c_4⟩))⟩), trivial⟩, hS.F ht9⟩) hS.2.2 dJ0_indexOf_7cf53_36 hlocks
      · obtain ⟨c_5, c_6, c_7, c_8, c_9⟩ := hw
        refine lv_goto (tgt := 36) hx hb dJ0_indexOf_7cf53_20 (by decide) ?_
        refine W.widen (k := 0) (n := 0) (Nat.le_of_ble_eq_true rfl) (Nat.le_of_ble_eq_true rfl) ?_
        exact W.iret (v := (-1)) hx hb hr (fun t ht9 hW9 => ⟨⟨(-1), (), rfl, (Or.inl ⟨rfl, (Or.inr (Or.inr ⟨c_5, c_6, c_7, c_8, c_9⟩))⟩), trivial⟩, hS.F ht9⟩) hS.2.2 dJ0_indexOf_7cf53_36 hlocks
    · obtain ⟨rfl, hw⟩ := hw
      obtain ⟨c_10, c_11, c_12, c_13, c_14⟩ := hw
      refine lv_goto (tgt := 36) hx hb dJ0_indexOf_7cf53_20 (by decide) ?_
      refine W.widen (k := 0) (n := 0) (Nat.le_of_ble_eq_true rfl) (Nat.le_of_ble_eq_true rfl) ?_
      exact W.iret (v := 2) hx hb hr (fun t ht9 hW9 => ⟨⟨2, (), rfl, (Or.inr (Or.inl ⟨rfl, ⟨c_10, c_11, c_12, c_13, c_14⟩⟩)), trivial⟩, hS.F ht9⟩) hS.2.2 dJ0_indexOf_7cf53_36 hlocks
    · obtain ⟨rfl, hw⟩ := hw
      obtain ⟨c_15, c_16, c_17, c_18⟩ := hw
      refine lv_goto (tgt := 36) hx hb dJ0_indexOf_7cf53_20 (by decide) ?_
      refine W.widen (k := 0) (n := 0) (Nat.le_of_ble_eq_true rfl) (Nat.le_of_ble_eq_true rfl) ?_
      exact W.iret (v := 1) hx hb hr (fun t ht9 hW9 => ⟨⟨1, (), rfl, (Or.inr (Or.inr (Or.inl ⟨rfl, ⟨c_15, c_16, c_17, c_18⟩⟩))), trivial⟩, hS.F ht9⟩) hS.2.2 dJ0_indexOf_7cf53_36 hlocks
    · obtain ⟨rfl, hw⟩ := hw
      obtain ⟨c_19, c_20, c_21⟩ := hw
      refine lv_goto (tgt := 36) hx hb dJ0_indexOf_7cf53_20 (by decide) ?_
      refine W.widen (k := 0) (n := 0) (Nat.le_of_ble_eq_true rfl) (Nat.le_of_ble_eq_true rfl) ?_
      exact W.iret (v := 0) hx hb hr (fun t ht9 hW9 => ⟨⟨0, (), rfl, (Or.inr (Or.inr (Or.inr ⟨rfl, ⟨c_19, c_20, c_21⟩⟩))), trivial⟩, hS.F ht9⟩) hS.2.2 dJ0_indexOf_7cf53_36 hlocks
set_option maxHeartbeats 4000000 in
set_option maxRecDepth 100000 in
theorem k_J0_indexOf_0f7a4 (l : Launch) (D : va_G) (g : Nat → ClassId) (z0 sz : Nat) (a : Nat → Nat) (p0 : Int32) : Met l yJ0_indexOf_0f7a4 (.code yJ0_indexOf_0f7a4 cJ0_indexOf_0f7a4 2 (some .int) :: TG) (rmk 3 0 0 70) (va_Pc [.ref (g 202), .int p0] (PP D g z0 sz [])) (va_Qi (fun (r : Int32) (u : Unit) => ((r = (-1)) ∧ (((¬ p0 = 119) ∧ (¬ p0 = 117) ∧ (¬ p0 = 100)) ∨ ((¬ p0 = 119) ∧ (¬ p0 = 117) ∧ (¬ p0 = 100)) ∨ ((¬ p0 = 119) ∧ (¬ p0 = 117) ∧ (¬ p0 = 100)))) ∨ ((r = 2) ∧ (p0 = 100)) ∨ ((r = 1) ∧ (p0 = 117)) ∨ ((r = 0) ∧ (p0 = 119))) (fun (_ : Unit) (_ : State) => True) (va_A [] sz)) 0 0 (va_A [] sz) := by
  refine met0 (cc := cJ0_indexOf_0f7a4) (n := 2) (by decide) (Nat.le_of_ble_eq_true rfl) ?_
  intro p e s m args below meth c hx hb hr hml hown ht hlocks hnm hP0 hD0 hK hZ hsz hz ls hl
  subst hsz
  have hA : ∀ q : Nat, s.heap.size ≤ q → va_A [] s.heap.size q := Anw
  have hAz : ∀ q, va_A [] s.heap.size q → z0 ≤ q := A0z hz
  have hS : va_S (va_A [] s.heap.size) s.heap s.heap [] := va_S.rf
  have hl : lv_has ls 2 [(0, .ref (g 202)), (1, .int p0)] := hl
  refine lv_aload_n hx hb dJ0_indexOf_0f7a4_0 rfl (lv_at hl 0 rfl) ?_
  refine lv_iload_n hx hb dJ0_indexOf_0f7a4_1 rfl (lv_at hl 1 rfl) ?_
  refine lv_iconst (v := 0) hx hb dJ0_indexOf_0f7a4_2 (by decide) ?_
  have hPc : va_P D vwCl [] _ := (ro0 hP0 hS).sub (ws' := []) [] rfl
  have hDc : va_D (fun q => z0 ≤ q) [] := hD0.pick (ws' := []) [] (by decide) rfl
  have hFc := AnA (ws := []) hS.1
  refine va_calli (va_runV (As := [.int p0, .int 0]) (rest := []) ⟨hx, hb, hml, hown, ht⟩ (k_J0_indexOf_7cf53 l D g z0 _ a p0) (cwV 2 ht (gV w_421 w_423 w_424 w_394 w_422) rfl rfl rfl (by decide +kernel) (le2 rfl rfl)) ⟨PP.blind, vk_recv (i := 2) (hZ.m hAz).2.2.1 (by decide) hS, PP.mk' hK hZ hz hAz hS hPc hDc⟩ rfl rfl hl.1 rfl (lv_room (Nat.le_of_ble_eq_true rfl)) dJ0_indexOf_0f7a4_3 (le2 rfl rfl)) hS (fun q _ h => hFc q h) hFc (fun r u t H locs ht1 hvm hw hB hz1 hk1 hS => ?_)
  rcases hw with hw | hw | hw | hw
  · obtain ⟨rfl, hw⟩ := hw
    rcases hw with hw | hw | hw
    · have c_1 := hw
      refine W.widen (k := 0) (n := 0) (Nat.le_of_ble_eq_true rfl) (Nat.le_of_ble_eq_true rfl) ?_
      exact W.iret (v := (-1)) hx hb hr (fun t ht9 hW9 => ⟨⟨(-1), (), rfl, (Or.inl ⟨rfl, (Or.inl ⟨(fun h9 => absurd (h9 ▸ c_1) (by decide)), (fun h9 => absurd (h9 ▸ c_1) (by decide)), (fun h9 => absurd (h9 ▸ c_1) (by decide))⟩)⟩), trivial⟩, hS.F ht9⟩) hS.2.2 dJ0_indexOf_0f7a4_6 hlocks
    · obtain ⟨c_2, c_3⟩ := hw
      refine W.widen (k := 0) (n := 0) (Nat.le_of_ble_eq_true rfl) (Nat.le_of_ble_eq_true rfl) ?_
      exact W.iret (v := (-1)) hx hb hr (fun t ht9 hW9 => ⟨⟨(-1), (), rfl, (Or.inl ⟨rfl, (Or.inl ⟨(fun h9 => absurd (h9 ▸ c_3) (by decide)), (fun h9 => absurd (h9 ▸ c_3) (by decide)), (fun h9 => absurd (h9 ▸ c_3) (by decide))⟩)⟩), trivial⟩, hS.F ht9⟩) hS.2.2 dJ0_indexOf_0f7a4_6 hlocks
    · obtain ⟨c_4, c_5, c_6, c_7, c_8⟩ := hw
      refine W.widen (k := 0) (n := 0) (Nat.le_of_ble_eq_true rfl) (Nat.le_of_ble_eq_true rfl) ?_
      exact W.iret (v := (-1)) hx hb hr (fun t ht9 hW9 => ⟨⟨(-1), (), rfl, (Or.inl ⟨rfl, (Or.inl ⟨(fun h9 => c_6 (by rw [h9]; decide)), (fun h9 => c_7 (by rw [h9]; decide)), (fun h9 => c_8 (by rw [h9]; decide))⟩)⟩), trivial⟩, hS.F ht9⟩) hS.2.2 dJ0_indexOf_0f7a4_6 hlocks
  · obtain ⟨rfl, hw⟩ := hw
    obtain ⟨c_9, c_10, c_11, c_12, c_13⟩ := hw
    refine W.widen (k := 0) (n := 0) (Nat.le_of_ble_eq_true rfl) (Nat.le_of_ble_eq_true rfl) ?_
    exact W.iret (v := 2) hx hb hr (fun t ht9 hW9 => ⟨⟨2, (), rfl, (Or.inr (Or.inl ⟨rfl, (ix_eq (n := 100) c_9 c_10 (by decide) c_13)⟩)), trivial⟩, hS.F ht9⟩) hS.2.2 dJ0_indexOf_0f7a4_6 hlocks
  · obtain ⟨rfl, hw⟩ := hw
    obtain ⟨c_14, c_15, c_16, c_17⟩ := hw
    refine W.widen (k := 0) (n := 0) (Nat.le_of_ble_eq_true rfl) (Nat.le_of_ble_eq_true rfl) ?_
    exact W.iret (v := 1) hx hb hr (fun t ht9 hW9 => ⟨⟨1, (), rfl, (Or.inr (Or.inr (Or.inl ⟨rfl, (ix_eq (n := 117) c_14 c_15 (by decide) c_17)⟩))), trivial⟩, hS.F ht9⟩) hS.2.2 dJ0_indexOf_0f7a4_6 hlocks
  · obtain ⟨rfl, hw⟩ := hw
    obtain ⟨c_18, c_19, c_20⟩ := hw
    refine W.widen (k := 0) (n := 0) (Nat.le_of_ble_eq_true rfl) (Nat.le_of_ble_eq_true rfl) ?_
    exact W.iret (v := 0) hx hb hr (fun t ht9 hW9 => ⟨⟨0, (), rfl, (Or.inr (Or.inr (Or.inr ⟨rfl, (ix_eq (n := 119) c_18 c_19 (by decide) c_20)⟩))), trivial⟩, hS.F ht9⟩) hS.2.2 dJ0_indexOf_0f7a4_6 hlocks
set_option maxHeartbeats 4000000 in
set_option maxRecDepth 100000 in
theorem k_X15_isLine (l : Launch) (D : va_G) (g : Nat → ClassId) (z0 sz : Nat) (a : Nat → Nat) (p0 : Int32) : Met l yX15_isLine (.code yX15_isLine cX15_isLine 2 (some .boolean) :: TG) (rmk 1 0 0 22) (va_Pc [.ref (a 200), .int p0] (PP D g z0 sz [((a 200), f_m a g), ((a 201), .inr (5, [.int 0, .ref (g 100), .int 0]))])) (va_Qi (fun (r : Int32) (u : Unit) => (r = 0) ∧ True) (fun (_ : Unit) (_ : State) => True) (va_A [] sz)) 0 0 (va_A [] sz) := by
  refine met0 (cc := cX15_isLine) (n := 2) (by decide) (Nat.le_of_ble_eq_true rfl) ?_
  intro p e s m args below meth c hx hb hr hml hown ht hlocks hnm hP0 hD0 hK hZ hsz hz ls hl
  subst hsz
  have hA : ∀ q : Nat, s.heap.size ≤ q → va_A [] s.heap.size q := Anw
  have hAz : ∀ q, va_A [] s.heap.size q → z0 ≤ q := A0z hz
  have hS : va_S (va_A [] s.heap.size) s.heap s.heap [] := va_S.rf
  have hl : lv_has ls 2 [(0, .ref (a 200)), (1, .int p0)] := hl
  refine lv_iload_n hx hb dX15_isLine_0 rfl (lv_at hl 1 rfl) ?_
  refine lv_iconst (v := 0) hx hb dX15_isLine_1 (by decide) ?_
  refine lv_aload_n hx hb dX15_isLine_2 rfl (lv_at hl 0 rfl) ?_
  refine va_get (D := D) (ci := 21) (v := .ref (a 201)) (C := RX15) (T := TX15) (N := 29) hx hb ht in_X15 hown hK.1 (ro0 hP0 hS) 0 rfl rfl 1 (by decide) (ht _ w_354) (fun _ h9 => h9) rfl dX15_isLine_3 ?_
  have hPc : va_P D vwCl [((a 201), .inr (5, [.int 0, .ref (g 100), .int 0]))] _ := (ro0 hP0 hS).sub (ws' := [((a 201), .inr (5, [.int 0, .ref (g 100), .int 0]))]) [1] rfl
  have hDc : va_D (fun q => z0 ≤ q) [((a 201), .inr (5, [.int 0, .ref (g 100), .int 0]))] := hD0.pick (ws' := [((a 201), .inr (5, [.int 0, .ref (g 100), .int 0]))]) [1] (by decide) rfl
  have hFc := AnA (ws := []) hS.1
  refine va_callFi (va_runF (As := []) (rest := [.int 0, .int p0]) (hK.1.1 5 _ rfl).2 ⟨hx, hb, hml, hown, ht⟩ (k_Jx4a65c_size_8abf5 l D g z0 _ a (a 201)) (va_cwF 0 ht (gF w_356 w_358 w_359 w_323 w_357) rfl rfl rfl (hK.2.2.2.1 _ (List.mem_of_getElem? (i := 0) rfl)) (by decide +kernel) (le2 rfl rfl)) ⟨PP.blind, va_recv hK.1 (ro0 hP0 hS) (ci := 5) (q0 := 1) rfl rfl, PP.mk' hK hZ hz hAz hS hPc hDc⟩ rfl rfl hl.1 rfl (lv_room (Nat.le_of_ble_eq_true rfl)) dX15_isLine_6 (le2 rfl rfl)) hS (fun q _ h => hFc q h) hFc (fun r u t H locs ht1 hvm hw hB hz1 hk1 hS => ?_)
  obtain ⟨rfl, hw⟩ := hw
  refine lv_iconst (v := 1) hx hb dX15_isLine_11 (by decide) ?_
  refine lv_isub hx hb dX15_isLine_12 ?_
  refine r_topi (v := (-1)) (by decide) ?_
  have hPc : va_P D vwCl [] _ := (ro0 hP0 hS).sub (ws' := []) [] rfl
  have hDc : va_D (fun q => z0 ≤ q) [] := hD0.pick (ws' := []) [] (by decide) rfl
  have hFc := AnA (ws := []) hS.1
  refine va_calli (va_runS (As := [.int p0, .int 0, .int (-1)]) (rest := []) ⟨hx, hb, hml, hown, ht⟩ (k_X15_isBetween l D g z0 _ a p0) (va_cwS 3 ht (gS w_369 w_371 w_334 w_370) rfl rfl rfl (by decide +kernel) (le2 rfl rfl)) ⟨PP.blind, PP.mk' hK hZ hz hAz hS hPc hDc⟩ rfl rfl hl.1 rfl (lv_room (Nat.le_of_ble_eq_true rfl)) dX15_isLine_13 (le2 rfl rfl)) hS (fun q _ h => hFc q h) hFc (fun r u t H locs ht1 hvm hw hB hz1 hk1 hS => ?_)
  obtain ⟨rfl, hw⟩ := hw
  refine W.widen (k := 0) (n := 0) (Nat.le_of_ble_eq_true rfl) (Nat.le_of_ble_eq_true rfl) ?_
  exact W.zret (v := 0) hx hb hr rfl (fun t ht9 hW9 => ⟨⟨0, (), rfl, ⟨rfl, trivial⟩, trivial⟩, hS.F ht9⟩) hS.2.2 dX15_isLine_16 hlocks
set_option maxHeartbeats 4000000 in
set_option maxRecDepth 100000 in
theorem k_X15_bridge (l : Launch) (D : va_G) (g : Nat → ClassId) (z0 sz : Nat) (a : Nat → Nat) (p0 : Int32) (p1 : Int32) (p2 : Int32) (hc_p0 : isC p0) : Met l yX15_bridge (.code yX15_bridge cX15_bridge 4 (some .int) :: TG) (rmk 4 0 0 91) (va_Pc [.ref (a 200), .int p0, .int p1, .int p2] (PP D g z0 sz [((a 200), f_m a g), ((a 201), .inr (5, [.int 0, .ref (g 100), .int 0]))])) (va_Qi (fun (r : Int32) (u : Int32) => ((r = 0) ∧ (u = 1) ∧ (((¬ p0 = 119) ∧ (¬ p0 = 117) ∧ (¬ p0 = 100)) ∨ ((¬ p0 = 119) ∧ (¬ p0 = 117) ∧ (¬ p0 = 100)) ∨ ((¬ p0 = 119) ∧ (¬ p0 = 117) ∧ (¬ p0 = 100)))) ∨ ((r = 0) ∧ (u = 2) ∧ ((p0 = 100) ∨ (p0 = 117) ∨ (p0 = 119)))) (fun (u : Int32) (t : State) => va_P D vwCl [((a 200), .inr (21, [.int u, .ref (a 201), .ref (a 202), .ref (a 203), .ref (a 204), .ref (a 205), .ref (a 206), .int 0, .int 0, .int 0, .int 0, .ref (a 208), .ref (a 209), .ref (a 210), .ref (a 211), .ref (a 212), .int 4, .int 12, .int (-1), .int 0, .ref (g 200), .ref (a 213), .int 0, .int 97, .ref (a 214), .ref (a 215), .ref (a 207), .null, .int 0]))] t.heap ∧ va_D (va_A [((a 200), f_m a g), ((a 201), .inr (5, [.int 0, .ref (g 100), .int 0]))] sz) [((a 200), .inr (21, [.int u, .ref (a 201), .ref (a 202), .ref (a 203), .ref (a 204), .ref (a 205), .ref (a 206), .int 0, .int 0, .int 0, .int 0, .ref (a 208), .ref (a 209), .ref (a 210), .ref (a 211), .ref (a 212), .int 4, .int 12, .int (-1), .int 0, .ref (g 200), .ref (a 213), .int 0, .int 97, .ref (a 214), .ref (a 215), .ref (a 207), .null, .int 0]))]) (va_A [((a 200), f_m a g), ((a 201), .inr (5, [.int 0, .ref (g 100), .int 0]))] sz)) 0 0 (va_A [((a 200), f_m a g), ((a 201), .inr (5, [.int 0, .ref (g 100), .int 0]))] sz) := by
  refine met0 (cc := cX15_bridge) (n := 4) (by decide) (Nat.le_of_ble_eq_true rfl) ?_
  intro p e s m args below meth c hx hb hr hml hown ht hlocks hnm hP0 hD0 hK hZ hsz hz ls hl
  subst hsz
  have hA : ∀ q : Nat, s.heap.size ≤ q → va_A [((a 200), f_m a g), ((a 201), .inr (5, [.int 0, .ref (g 100), .int 0]))] s.heap.size q := Anw
  have hAz : ∀ q, va_A [((a 200), f_m a g), ((a 201), .inr (5, [.int 0, .ref (g 100), .int 0]))] s.heap.size q → z0 ≤ q := Awz hz hD0
  have hS : va_S (va_A [((a 200), f_m a g), ((a 201), .inr (5, [.int 0, .ref (g 100), .int 0]))] s.heap.size) s.heap s.heap [] := va_S.rf
  have hD : va_D (va_A [((a 200), f_m a g), ((a 201), .inr (5, [.int 0, .ref (g 100), .int 0]))] s.heap.size) [((a 200), f_m a g), ((a 201), .inr (5, [.int 0, .ref (g 100), .int 0]))] := hD0.self
  have hP : va_P D vwCl [((a 200), f_m a g), ((a 201), .inr (5, [.int 0, .ref (g 100), .int 0]))] s.heap := hP0
  have hl : lv_has ls 4 [(0, .ref (a 200)), (1, .int p0), (2, .int p1), (3, .int p2)] := hl
  refine lv_aload_n hx hb dX15_bridge_0 rfl (lv_at hl 0 rfl) ?_
  refine r_ldcSw (index := 326) (tx := "wud") (q := g 202) hx hb hown (hK.2.2.2.2.2.2.1 2 (by decide)) dX15_bridge_1 ?_
  refine lv_iload_n hx hb dX15_bridge_4 rfl (lv_at hl 1 rfl) ?_
  have hPc : va_P D vwCl [] _ := hP.sub (ws' := []) [] rfl
  have hDc : va_D (fun q => z0 ≤ q) [] := (hD.to hAz).pick (ws' := []) [] (by decide) rfl
  have hFc := AnA (ws := [((a 200), f_m a g), ((a 201), .inr (5, [.int 0, .ref (g 100), .int 0]))]) hS.1
  refine va_calli (va_runV (As := [.int p0]) (rest := [.ref (a 200)]) ⟨hx, hb, hml, hown, ht⟩ (k_J0_indexOf_0f7a4 l D g z0 _ a p0) (cwV 1 ht (gV w_425 w_427 w_428 w_394 w_426) rfl rfl rfl (by decide +kernel) (le2 rfl rfl)) ⟨PP.blind, vk_recv (i := 2) (hZ.m hAz).2.2.1 (by decide) hS, PP.mk' hK hZ hz hAz hS hPc hDc⟩ rfl rfl hl.1 rfl (lv_room (Nat.le_of_ble_eq_true rfl)) dX15_bridge_5 (le2 rfl rfl)) hS (fun q _ h => hFc q h) hFc (fun r u t H locs ht1 hvm hw hB hz1 hk1 hS => ?_)
  rcases hw with hw | hw | hw | hw
  · obtain ⟨rfl, hw⟩ := hw
    rcases hw with hw | hw | hw
    · obtain ⟨c_1, c_2, c_3⟩ := hw
      have hP := ro1 hP hk1
      refine lv_if_ge (tgt := 15) hx hb dX15_bridge_8 (by decide) (fun c_4 => ?_) (fun c_4 => ?_)
      · exact absurd c_4 (by decide)
      · refine lv_iconst (v := 1) hx hb dX15_bridge_11 (by decide) ?_
        refine lv_goto (tgt := 78) hx hb dX15_bridge_12 (by decide) ?_
        have hPc : va_P D vwCl [((a 200), f_m a g)] _ := hP.sub (ws' := [((a 200), f_m a g)]) [0] rfl
        have hDc : va_D (fun q => z0 ≤ q) [((a 200), f_m a g)] := (hD.to hAz).pick (ws' := [((a 200), f_m a g)]) [0] (by decide) rfl
        have hFc := va_free (wc := [((a 200), f_m a g)]) hD hS hA [0] rfl
        refine va_calli (va_runV (As := [.int 1]) (rest := []) ⟨hx, hb, hml, hown, ht⟩ (k_X15_isWrong l D g z0 _ a) (cwV 1 ht (gV w_376 w_378 w_379 w_334 w_377) rfl rfl rfl (by decide +kernel) (le2 rfl rfl)) ⟨PP.blind, va_recv hK.1 hP (ci := 21) (q0 := 0) rfl rfl, PP.mk' hK hZ hz hAz hS hPc hDc⟩ rfl rfl hl.1 rfl (lv_room (Nat.le_of_ble_eq_true rfl)) dX15_bridge_78 (le2 rfl rfl)) hS (fun q _ h => hFc q h) hFc (fun r u t H locs ht1 hvm hw hB hz1 hk1 hS => ?_)
        obtain ⟨rfl, hw⟩ := hw
        obtain ⟨hP1, hD1⟩ := hB
        rw [ht1] at hP1
        obtain ⟨hP, hD⟩ := va_join (wr := [((a 201), .inr (5, [.int 0, .ref (g 100), .int 0]))]) (w1 := [((a 200), .inr (21, [.int 1, .ref (a 201), .ref (a 202), .ref (a 203), .ref (a 204), .ref (a 205), .ref (a 206), .int 0, .int 0, .int 0, .int 0, .ref (a 208), .ref (a 209), .ref (a 210), .ref (a 211), .ref (a 212), .int 4, .int 12, .int (-1), .int 0, .ref (g 200), .ref (a 213), .int 0, .int 97, .ref (a 214), .ref (a 215), .ref (a 207), .null, .int 0]))]) hP hD [0] [1] rfl rfl (by decide) (by decide) hk1 hFc hP1 hD1
        have hP : va_P D vwCl [((a 201), .inr (5, [.int 0, .ref (g 100), .int 0])), ((a 200), .inr (21, [.int 1, .ref (a 201), .ref (a 202), .ref (a 203), .ref (a 204), .ref (a 205), .ref (a 206), .int 0, .int 0, .int 0, .int 0, .ref (a 208), .ref (a 209), .ref (a 210), .ref (a 211), .ref (a 212), .int 4, .int 12, .int (-1), .int 0, .ref (g 200), .ref (a 213), .int 0, .int 97, .ref (a 214), .ref (a 215), .ref (a 207), .null, .int 0]))] H := hP
        have hD : va_D (va_A [((a 200), f_m a g), ((a 201), .inr (5, [.int 0, .ref (g 100), .int 0]))] s.heap.size) [((a 201), .inr (5, [.int 0, .ref (g 100), .int 0])), ((a 200), .inr (21, [.int 1, .ref (a 201), .ref (a 202), .ref (a 203), .ref (a 204), .ref (a 205), .ref (a 206), .int 0, .int 0, .int 0, .int 0, .ref (a 208), .ref (a 209), .ref (a 210), .ref (a 211), .ref (a 212), .int 4, .int 12, .int (-1), .int 0, .ref (g 200), .ref (a 213), .int 0, .int 97, .ref (a 214), .ref (a 215), .ref (a 207), .null, .int 0]))] := hD
        refine lv_if_eq (tgt := 86) hx hb dX15_bridge_81 (by decide) (fun c_5 => ?_) (fun c_5 => ?_)
        · exact absurd c_5 (by decide)
        · refine lv_iconst (v := 0) hx hb dX15_bridge_84 (by decide) ?_
          have hP9 := hP.sub (ws' := [((a 200), .inr (21, [.int 1, .ref (a 201), .ref (a 202), .ref (a 203), .ref (a 204), .ref (a 205), .ref (a 206), .int 0, .int 0, .int 0, .int 0, .ref (a 208), .ref (a 209), .ref (a 210), .ref (a 211), .ref (a 212), .int 4, .int 12, .int (-1), .int 0, .ref (g 200), .ref (a 213), .int 0, .int 97, .ref (a 214), .ref (a 215), .ref (a 207), .null, .int 0]))]) [1] rfl
          have hD9 := hD.sub (ws' := [((a 200), .inr (21, [.int 1, .ref (a 201), .ref (a 202), .ref (a 203), .ref (a 204), .ref (a 205), .ref (a 206), .int 0, .int 0, .int 0, .int 0, .ref (a 208), .ref (a 209), .ref (a 210), .ref (a 211), .ref (a 212), .int 4, .int 12, .int (-1), .int 0, .ref (g 200), .ref (a 213), .int 0, .int 97, .ref (a 214), .ref (a 215), .ref (a 207), .null, .int 0]))]) [1] (by decide) rfl
          refine W.widen (k := 0) (n := 0) (Nat.le_of_ble_eq_true rfl) (Nat.le_of_ble_eq_true rfl) ?_
          exact W.iret (v := 0) hx hb hr (fun t ht9 hW9 => ⟨⟨0, 1, rfl, (Or.inl ⟨rfl, rfl, (Or.inl ⟨c_1, c_2, c_3⟩)⟩), ⟨(by rw [ht9]; exact hP9), hD9⟩⟩, hS.F ht9⟩) hS.2.2 dX15_bridge_85 hlocks
    · obtain ⟨c_6, c_7, c_8⟩ := hw
      have hP := ro1 hP hk1
      refine lv_if_ge (tgt := 15) hx hb dX15_bridge_8 (by decide) (fun c_9 => ?_) (fun c_9 => ?_)
      · exact absurd c_9 (by decide)
      · refine lv_iconst (v := 1) hx hb dX15_bridge_11 (by decide) ?_
        refine lv_goto (tgt := 78) hx hb dX15_bridge_12 (by decide) ?_
        have hPc : va_P D vwCl [((a 200), f_m a g)] _ := hP.sub (ws' := [((a 200), f_m a g)]) [0] rfl
        have hDc : va_D (fun q => z0 ≤ q) [((a 200), f_m a g)] := (hD.to hAz).pick (ws' := [((a 200), f_m a g)]) [0] (by decide) rfl
        have hFc := va_free (wc := [((a 200), f_m a g)]) hD hS hA [0] rfl
        refine va_calli (va_runV (As := [.int 1]) (rest := []) ⟨hx, hb, hml, hown, ht⟩ (k_X15_isWrong l D g z0 _ a) (cwV 1 ht (gV w_376 w_378 w_379 w_334 w_377) rfl rfl rfl (by decide +kernel) (le2 rfl rfl)) ⟨PP.blind, va_recv hK.1 hP (ci := 21) (q0 := 0) rfl rfl, PP.mk' hK hZ hz hAz hS hPc hDc⟩ rfl rfl hl.1 rfl (lv_room (Nat.le_of_ble_eq_true rfl)) dX15_bridge_78 (le2 rfl rfl)) hS (fun q _ h => hFc q h) hFc (fun r u t H locs ht1 hvm hw hB hz1 hk1 hS => ?_)
        obtain ⟨rfl, hw⟩ := hw
        obtain ⟨hP1, hD1⟩ := hB
        rw [ht1] at hP1
        obtain ⟨hP, hD⟩ := va_join (wr := [((a 201), .inr (5, [.int 0, .ref (g 100), .int 0]))]) (w1 := [((a 200), .inr (21, [.int 1, .ref (a 201), .ref (a 202), .ref (a 203), .ref (a 204), .ref (a 205), .ref (a 206), .int 0, .int 0, .int 0, .int 0, .ref (a 208), .ref (a 209), .ref (a 210), .ref (a 211), .ref (a 212), .int 4, .int 12, .int (-1), .int 0, .ref (g 200), .ref (a 213), .int 0, .int 97, .ref (a 214), .ref (a 215), .ref (a 207), .null, .int 0]))]) hP hD [0] [1] rfl rfl (by decide) (by decide) hk1 hFc hP1 hD1
        have hP : va_P D vwCl [((a 201), .inr (5, [.int 0, .ref (g 100), .int 0])), ((a 200), .inr (21, [.int 1, .ref (a 201), .ref (a 202), .ref (a 203), .ref (a 204), .ref (a 205), .ref (a 206), .int 0, .int 0, .int 0, .int 0, .ref (a 208), .ref (a 209), .ref (a 210), .ref (a 211), .ref (a 212), .int 4, .int 12, .int (-1), .int 0, .ref (g 200), .ref (a 213), .int 0, .int 97, .ref (a 214), .ref (a 215), .ref (a 207), .null, .int 0]))] H := hP
        have hD : va_D (va_A [((a 200), f_m a g), ((a 201), .inr (5, [.int 0, .ref (g 100), .int 0]))] s.heap.size) [((a 201), .inr (5, [.int 0, .ref (g 100), .int 0])), ((a 200), .inr (21, [.int 1, .ref (a 201), .ref (a 202), .ref (a 203), .ref (a 204), .ref (a 205), .ref (a 206), .int 0, .int 0, .int 0, .int 0, .ref (a 208), .ref (a 209), .ref (a 210), .ref (a 211), .ref (a 212), .int 4, .int 12, .int (-1), .int 0, .ref (g 200), .ref (a 213), .int 0, .int 97, .ref (a 214), .ref (a 215), .ref (a 207), .null, .int 0]))] := hD
        refine lv_if_eq (tgt := 86) hx hb dX15_bridge_81 (by decide) (fun c_10 => ?_) (fun c_10 => ?_)
        · exact absurd c_10 (by decide)
        · refine lv_iconst (v := 0) hx hb dX15_bridge_84 (by decide) ?_
          have hP9 := hP.sub (ws' := [((a 200), .inr (21, [.int 1, .ref (a 201), .ref (a 202), .ref (a 203), .ref (a 204), .ref (a 205), .ref (a 206), .int 0, .int 0, .int 0, .int 0, .ref (a 208), .ref (a 209), .ref (a 210), .ref (a 211), .ref (a 212), .int 4, .int 12, .int (-1), .int 0, .ref (g 200), .ref (a 213), .int 0, .int 97, .ref (a 214), .ref (a 215), .ref (a 207), .null, .int 0]))]) [1] rfl
          have hD9 := hD.sub (ws' := [((a 200), .inr (21, [.int 1, .ref (a 201), .ref (a 202), .ref (a 203), .ref (a 204), .ref (a 205), .ref (a 206), .int 0, .int 0, .int 0, .int 0, .ref (a 208), .ref (a 209), .ref (a 210), .ref (a 211), .ref (a 212), .int 4, .int 12, .int (-1), .int 0, .ref (g 200), .ref (a 213), .int 0, .int 97, .ref (a 214), .ref (a 215), .ref (a 207), .null, .int 0]))]) [1] (by decide) rfl
          refine W.widen (k := 0) (n := 0) (Nat.le_of_ble_eq_true rfl) (Nat.le_of_ble_eq_true rfl) ?_
          exact W.iret (v := 0) hx hb hr (fun t ht9 hW9 => ⟨⟨0, 1, rfl, (Or.inl ⟨rfl, rfl, (Or.inl ⟨c_6, c_7, c_8⟩)⟩), ⟨(by rw [ht9]; exact hP9), hD9⟩⟩, hS.F ht9⟩) hS.2.2 dX15_bridge_85 hlocks
    · obtain ⟨c_11, c_12, c_13⟩ := hw
      have hP := ro1 hP hk1
      refine lv_if_ge (tgt := 15) hx hb dX15_bridge_8 (by decide) (fun c_14 => ?_) (fun c_14 => ?_)
      · exact absurd c_14 (by decide)
      · refine lv_iconst (v := 1) hx hb dX15_bridge_11 (by decide) ?_
        refine lv_goto (tgt := 78) hx hb dX15_bridge_12 (by decide) ?_
        have hPc : va_P D vwCl [((a 200), f_m a g)] _ := hP.sub (ws' := [((a 200), f_m a g)]) [0] rfl
        have hDc : va_D (fun q => z0 ≤ q) [((a 200), f_m a g)] := (hD.to hAz).pick (ws' := [((a 200), f_m a g)]) [0] (by decide) rfl
        have hFc := va_free (wc := [((a 200), f_m a g)]) hD hS hA [0] rfl
        refine va_calli (va_runV (As := [.int 1]) (rest := []) ⟨hx, hb, hml, hown, ht⟩ (k_X15_isWrong l D g z0 _ a) (cwV 1 ht (gV w_376 w_378 w_379 w_334 w_377) rfl rfl rfl (by decide +kernel) (le2 rfl rfl)) ⟨PP.blind, va_recv hK.1 hP (ci := 21) (q0 := 0) rfl rfl, PP.mk' hK hZ hz hAz hS hPc hDc⟩ rfl rfl hl.1 rfl (lv_room (Nat.le_of_ble_eq_true rfl)) dX15_bridge_78 (le2 rfl rfl)) hS (fun q _ h => hFc q h) hFc (fun r u t H locs ht1 hvm hw hB hz1 hk1 hS => ?_)
        obtain ⟨rfl, hw⟩ := hw
        obtain ⟨hP1, hD1⟩ := hB
        rw [ht1] at hP1
        obtain ⟨hP, hD⟩ := va_join (wr := [((a 201), .inr (5, [.int 0, .ref (g 100), .int 0]))]) (w1 := [((a 200), .inr (21, [.int 1, .ref (a 201), .ref (a 202), .ref (a 203), .ref (a 204), .ref (a 205), .ref (a 206), .int 0, .int 0, .int 0, .int 0, .ref (a 208), .ref (a 209), .ref (a 210), .ref (a 211), .ref (a 212), .int 4, .int 12, .int (-1), .int 0, .ref (g 200), .ref (a 213), .int 0, .int 97, .ref (a 214), .ref (a 215), .ref (a 207), .null, .int 0]))]) hP hD [0] [1] rfl rfl (by decide) (by decide) hk1 hFc hP1 hD1
        have hP : va_P D vwCl [((a 201), .inr (5, [.int 0, .ref (g 100), .int 0])), ((a 200), .inr (21, [.int 1, .ref (a 201), .ref (a 202), .ref (a 203), .ref (a 204), .ref (a 205), .ref (a 206), .int 0, .int 0, .int 0, .int 0, .ref (a 208), .ref (a 209), .ref (a 210), .ref (a 211), .ref (a 212), .int 4, .int 12, .int (-1), .int 0, .ref (g 200), .ref (a 213), .int 0, .int 97, .ref (a 214), .ref (a 215), .ref (a 207), .null, .int 0]))] H := hP
        have hD : va_D (va_A [((a 200), f_m a g), ((a 201), .inr (5, [.int 0, .ref (g 100), .int 0]))] s.heap.size) [((a 201), .inr (5, [.int 0, .ref (g 100), .int 0])), ((a 200), .inr (21, [.int 1, .ref (a 201), .ref (a 202), .ref (a 203), .ref (a 204), .ref (a 205), .ref (a 206), .int 0, .int 0, .int 0, .int 0, .ref (a 208), .ref (a 209), .ref (a 210), .ref (a 211), .ref (a 212), .int 4, .int 12, .int (-1), .int 0, .ref (g 200), .ref (a 213), .int 0, .int 97, .ref (a 214), .ref (a 215), .ref (a 207), .null, .int 0]))] := hD
        refine lv_if_eq (tgt := 86) hx hb dX15_bridge_81 (by decide) (fun c_15 => ?_) (fun c_15 => ?_)
        · exact absurd c_15 (by decide)
        · refine lv_iconst (v := 0) hx hb dX15_bridge_84 (by decide) ?_
          have hP9 := hP.sub (ws' := [((a 200), .inr (21, [.int 1, .ref (a 201), .ref (a 202), .ref (a 203), .ref (a 204), .ref (a 205), .ref (a 206), .int 0, .int 0, .int 0, .int 0, .ref (a 208), .ref (a 209), .ref (a 210), .ref (a 211), .ref (a 212), .int 4, .int 12, .int (-1), .int 0, .ref (g 200), .ref (a 213), .int 0, .int 97, .ref (a 214), .ref (a 215), .ref (a 207), .null, .int 0]))]) [1] rfl
          have hD9 := hD.sub (ws' := [((a 200), .inr (21, [.int 1, .ref (a 201), .ref (a 202), .ref (a 203), .ref (a 204), .ref (a 205), .ref (a 206), .int 0, .int 0, .int 0, .int 0, .ref (a 208), .ref (a 209), .ref (a 210), .ref (a 211), .ref (a 212), .int 4, .int 12, .int (-1), .int 0, .ref (g 200), .ref (a 213), .int 0, .int 97, .ref (a 214), .ref (a 215), .ref (a 207), .null, .int 0]))]) [1] (by decide) rfl
          refine W.widen (k := 0) (n := 0) (Nat.le_of_ble_eq_true rfl) (Nat.le_of_ble_eq_true rfl) ?_
          exact W.iret (v := 0) hx hb hr (fun t ht9 hW9 => ⟨⟨0, 1, rfl, (Or.inl ⟨rfl, rfl, (Or.inl ⟨c_11, c_12, c_13⟩)⟩), ⟨(by rw [ht9]; exact hP9), hD9⟩⟩, hS.F ht9⟩) hS.2.2 dX15_bridge_85 hlocks
  · obtain ⟨rfl, hw⟩ := hw
    have c_16 := hw
    have hP := ro1 hP hk1
    refine lv_if_ge (tgt := 15) hx hb dX15_bridge_8 (by decide) (fun c_17 => ?_) (fun c_17 => ?_)
    · refine lv_aload_n hx hb dX15_bridge_15 rfl (lv_at hl 0 rfl) ?_
      refine lv_iload_n hx hb dX15_bridge_16 rfl (lv_at hl 2 rfl) ?_
      have hPc : va_P D vwCl [((a 200), f_m a g), ((a 201), .inr (5, [.int 0, .ref (g 100), .int 0]))] _ := hP.sub (ws' := [((a 200), f_m a g), ((a 201), .inr (5, [.int 0, .ref (g 100), .int 0]))]) [0, 1] rfl
      have hDc : va_D (fun q => z0 ≤ q) [((a 200), f_m a g), ((a 201), .inr (5, [.int 0, .ref (g 100), .int 0]))] := (hD.to hAz).pick (ws' := [((a 200), f_m a g), ((a 201), .inr (5, [.int 0, .ref (g 100), .int 0]))]) [0, 1] (by decide) rfl
      have hFc := AnA (ws := [((a 200), f_m a g), ((a 201), .inr (5, [.int 0, .ref (g 100), .int 0]))]) hS.1
      refine va_calli (va_runV (As := [.int p1]) (rest := [.ref (a 200)]) ⟨hx, hb, hml, hown, ht⟩ (k_X15_isLine l D g z0 _ a p1) (cwV 1 ht (gV w_429 w_431 w_432 w_334 w_430) rfl rfl rfl (by decide +kernel) (le2 rfl rfl)) ⟨PP.blind, va_recv hK.1 hP (ci := 21) (q0 := 0) rfl rfl, PP.mk' hK hZ hz hAz hS hPc hDc⟩ rfl rfl hl.1 rfl (lv_room (Nat.le_of_ble_eq_true rfl)) dX15_bridge_17 (le2 rfl rfl)) hS (fun q _ h => hFc q h) hFc (fun r u t H locs ht1 hvm hw hB hz1 hk1 hS => ?_)
      obtain ⟨rfl, hw⟩ := hw
      have hP := ro1 hP hk1
      refine lv_if_eq (tgt := 31) hx hb dX15_bridge_20 (by decide) (fun c_18 => ?_) (fun c_18 => ?_)
      · refine lv_iconst (v := 2) hx hb dX15_bridge_31 (by decide) ?_
        refine lv_goto (tgt := 78) hx hb dX15_bridge_32 (by decide) ?_
        have hPc : va_P D vwCl [((a 200), f_m a g)] _ := hP.sub (ws' := [((a 200), f_m a g)]) [0] rfl
        have hDc : va_D (fun q => z0 ≤ q) [((a 200), f_m a g)] := (hD.to hAz).pick (ws' := [((a 200), f_m a g)]) [0] (by decide) rfl
        have hFc := va_free (wc := [((a 200), f_m a g)]) hD hS hA [0] rfl
        refine va_calli (va_runV (As := [.int 2]) (rest := []) ⟨hx, hb, hml, hown, ht⟩ (k_X15_isWrong_v2 l D g z0 _ a) (cwV 1 ht (gV w_376 w_378 w_379 w_334 w_377) rfl rfl rfl (by decide +kernel) (le2 rfl rfl)) ⟨PP.blind, va_recv hK.1 hP (ci := 21) (q0 := 0) rfl rfl, PP.mk' hK hZ hz hAz hS hPc hDc⟩ rfl rfl hl.1 rfl (lv_room (Nat.le_of_ble_eq_true rfl)) dX15_bridge_78 (le2 rfl rfl)) hS (fun q _ h => hFc q h) hFc (fun r u t H locs ht1 hvm hw hB hz1 hk1 hS => ?_)
        obtain ⟨rfl, hw⟩ := hw
        obtain ⟨hP1, hD1⟩ := hB
        rw [ht1] at hP1
        obtain ⟨hP, hD⟩ := va_join (wr := [((a 201), .inr (5, [.int 0, .ref (g 100), .int 0]))]) (w1 := [((a 200), .inr (21, [.int 2, .ref (a 201), .ref (a 202), .ref (a 203), .ref (a 204), .ref (a 205), .ref (a 206), .int 0, .int 0, .int 0, .int 0, .ref (a 208), .ref (a 209), .ref (a 210), .ref (a 211), .ref (a 212), .int 4, .int 12, .int (-1), .int 0, .ref (g 200), .ref (a 213), .int 0, .int 97, .ref (a 214), .ref (a 215), .ref (a 207), .null, .int 0]))]) hP hD [0] [1] rfl rfl (by decide) (by decide) hk1 hFc hP1 hD1
        have hP : va_P D vwCl [((a 201), .inr (5, [.int 0, .ref (g 100), .int 0])), ((a 200), .inr (21, [.int 2, .ref (a 201), .ref (a 202), .ref (a 203), .ref (a 204), .ref (a 205), .ref (a 206), .int 0, .int 0, .int 0, .int 0, .ref (a 208), .ref (a 209), .ref (a 210), .ref (a 211), .ref (a 212), .int 4, .int 12, .int (-1), .int 0, .ref (g 200), .ref (a 213), .int 0, .int 97, .ref (a 214), .ref (a 215), .ref (a 207), .null, .int 0]))] H := hP
        have hD : va_D (va_A [((a 200), f_m a g), ((a 201), .inr (5, [.int 0, .ref (g 100), .int 0]))] s.heap.size) [((a 201), .inr (5, [.int 0, .ref (g 100), .int 0])), ((a 200), .inr (21, [.int 2, .ref (a 201), .ref (a 202), .ref (a 203), .ref (a 204), .ref (a 205), .ref (a 206), .int 0, .int 0, .int 0, .int 0, .ref (a 208), .ref (a 209), .ref (a 210), .ref (a 211), .ref (a 212), .int 4, .int 12, .int (-1), .int 0, .ref (g 200), .ref (a 213), .int 0, .int 97, .ref (a 214), .ref (a 215), .ref (a 207), .null, .int 0]))] := hD
        refine lv_if_eq (tgt := 86) hx hb dX15_bridge_81 (by decide) (fun c_19 => ?_) (fun c_19 => ?_)
        · exact absurd c_19 (by decide)
        · refine lv_iconst (v := 0) hx hb dX15_bridge_84 (by decide) ?_
          have hP9 := hP.sub (ws' := [((a 200), .inr (21, [.int 2, .ref (a 201), .ref (a 202), .ref (a 203), .ref (a 204), .ref (a 205), .ref (a 206), .int 0, .int 0, .int 0, .int 0, .ref (a 208), .ref (a 209), .ref (a 210), .ref (a 211), .ref (a 212), .int 4, .int 12, .int (-1), .int 0, .ref (g 200), .ref (a 213), .int 0, .int 97, .ref (a 214), .ref (a 215), .ref (a 207), .null, .int 0]))]) [1] rfl
          have hD9 := hD.sub (ws' := [((a 200), .inr (21, [.int 2, .ref (a 201), .ref (a 202), .ref (a 203), .ref (a 204), .ref (a 205), .ref (a 206), .int 0, .int 0, .int 0, .int 0, .ref (a 208), .ref (a 209), .ref (a 210), .ref (a 211), .ref (a 212), .int 4, .int 12, .int (-1), .int 0, .ref (g 200), .ref (a 213), .int 0, .int 97, .ref (a 214), .ref (a 215), .ref (a 207), .null, .int 0]))]) [1] (by decide) rfl
          refine W.widen (k := 0) (n := 0) (Nat.le_of_ble_eq_true rfl) (Nat.le_of_ble_eq_true rfl) ?_
          exact W.iret (v := 0) hx hb hr (fun t ht9 hW9 => ⟨⟨0, 2, rfl, (Or.inr ⟨rfl, rfl, (Or.inl c_16)⟩), ⟨(by rw [ht9]; exact hP9), hD9⟩⟩, hS.F ht9⟩) hS.2.2 dX15_bridge_85 hlocks
      · exact absurd c_18 (by decide)
    · exact absurd c_17 (by decide)
  · obtain ⟨rfl, hw⟩ := hw
    have c_20 := hw
    have hP := ro1 hP hk1
    refine lv_if_ge (tgt := 15) hx hb dX15_bridge_8 (by decide) (fun c_21 => ?_) (fun c_21 => ?_)
    · refine lv_aload_n hx hb dX15_bridge_15 rfl (lv_at hl 0 rfl) ?_
      refine lv_iload_n hx hb dX15_bridge_16 rfl (lv_at hl 2 rfl) ?_
      have hPc : va_P D vwCl [((a 200), f_m a g), ((a 201), .inr (5, [.int 0, .ref (g 100), .int 0]))] _ := hP.sub (ws' := [((a 200), f_m a g), ((a 201), .inr (5, [.int 0, .ref (g 100), .int 0]))]) [0, 1] rfl
      have hDc : va_D (fun q => z0 ≤ q) [((a 200), f_m a g), ((a 201), .inr (5, [.int 0, .ref (g 100), .int 0]))] := (hD.to hAz).pick (ws' := [((a 200), f_m a g), ((a 201), .inr (5, [.int 0, .ref (g 100), .int 0]))]) [0, 1] (by decide) rfl
      have hFc := AnA (ws := [((a 200), f_m a g), ((a 201), .inr (5, [.int 0, .ref (g 100), .int 0]))]) hS.1
      refine va_calli (va_runV (As := [.int p1]) (rest := [.ref (a 200)]) ⟨hx, hb, hml, hown, ht⟩ (k_X15_isLine l D g z0 _ a p1) (cwV 1 ht (gV w_429 w_431 w_432 w_334 w_430) rfl rfl rfl (by decide +kernel) (le2 rfl rfl)) ⟨PP.blind, va_recv hK.1 hP (ci := 21) (q0 := 0) rfl rfl, PP.mk' hK hZ hz hAz hS hPc hDc⟩ rfl rfl hl.1 rfl (lv_room (Nat.le_of_ble_eq_true rfl)) dX15_bridge_17 (le2 rfl rfl)) hS (fun q _ h => hFc q h) hFc (fun r u t H locs ht1 hvm hw hB hz1 hk1 hS => ?_)
      obtain ⟨rfl, hw⟩ := hw
      have hP := ro1 hP hk1
      refine lv_if_eq (tgt := 31) hx hb dX15_bridge_20 (by decide) (fun c_22 => ?_) (fun c_22 => ?_)
      · refine lv_iconst (v := 2) hx hb dX15_bridge_31 (by decide) ?_
        refine lv_goto (tgt := 78) hx hb dX15_bridge_32 (by decide) ?_
        have hPc : va_P D vwCl [((a 200), f_m a g)] _ := hP.sub (ws' := [((a 200), f_m a g)]) [0] rfl
        have hDc : va_D (fun q => z0 ≤ q) [((a 200), f_m a g)] := (hD.to hAz).pick (ws' := [((a 200), f_m a g)]) [0] (by decide) rfl
        have hFc := va_free (wc := [((a 200), f_m a g)]) hD hS hA [0] rfl
        refine va_calli (va_runV (As := [.int 2]) (rest := []) ⟨hx, hb, hml, hown, ht⟩ (k_X15_isWrong_v2 l D g z0 _ a) (cwV 1 ht (gV w_376 w_378 w_379 w_334 w_377) rfl rfl rfl (by decide +kernel) (le2 rfl rfl)) ⟨PP.blind, va_recv hK.1 hP (ci := 21) (q0 := 0) rfl rfl, PP.mk' hK hZ hz hAz hS hPc hDc⟩ rfl rfl hl.1 rfl (lv_room (Nat.le_of_ble_eq_true rfl)) dX15_bridge_78 (le2 rfl rfl)) hS (fun q _ h => hFc q h) hFc (fun r u t H locs ht1 hvm hw hB hz1 hk1 hS => ?_)
        obtain ⟨rfl, hw⟩ := hw
        obtain ⟨hP1, hD1⟩ := hB
        rw [ht1] at hP1
        obtain ⟨hP, hD⟩ := va_join (wr := [((a 201), .inr (5, [.int 0, .ref (g 100), .int 0]))]) (w1 := [((a 200), .inr (21, [.int 2, .ref (a 201), .ref (a 202), .ref (a 203), .ref (a 204), .ref (a 205), .ref (a 206), .int 0, .int 0, .int 0, .int 0, .ref (a 208), .ref (a 209), .ref (a 210), .ref (a 211), .ref (a 212), .int 4, .int 12, .int (-1), .int 0, .ref (g 200), .ref (a 213), .int 0, .int 97, .ref (a 214), .ref (a 215), .ref (a 207), .null, .int 0]))]) hP hD [0] [1] rfl rfl (by decide) (by decide) hk1 hFc hP1 hD1
        have hP : va_P D vwCl [((a 201), .inr (5, [.int 0, .ref (g 100), .int 0])), ((a 200), .inr (21, [.int 2, .ref (a 201), .ref (a 202), .ref (a 203), .ref (a 204), .ref (a 205), .ref (a 206), .int 0, .int 0, .int 0, .int 0, .ref (a 208), .ref (a 209), .ref (a 210), .ref (a 211), .ref (a 212), .int 4, .int 12, .int (-1), .int 0, .ref (g 200), .ref (a 213), .int 0, .int 97, .ref (a 214), .ref (a 215), .ref (a 207), .null, .int 0]))] H := hP
        have hD : va_D (va_A [((a 200), f_m a g), ((a 201), .inr (5, [.int 0, .ref (g 100), .int 0]))] s.heap.size) [((a 201), .inr (5, [.int 0, .ref (g 100), .int 0])), ((a 200), .inr (21, [.int 2, .ref (a 201), .ref (a 202), .ref (a 203), .ref (a 204), .ref (a 205), .ref (a 206), .int 0, .int 0, .int 0, .int 0, .ref (a 208), .ref (a 209), .ref (a 210), .ref (a 211), .ref (a 212), .int 4, .int 12, .int (-1), .int 0, .ref (g 200), .ref (a 213), .int 0, .int 97, .ref (a 214), .ref (a 215), .ref (a 207), .null, .int 0]))] := hD
        refine lv_if_eq (tgt := 86) hx hb dX15_bridge_81 (by decide) (fun c_23 => ?_) (fun c_23 => ?_)
        · exact absurd c_23 (by decide)
        · refine lv_iconst (v := 0) hx hb dX15_bridge_84 (by decide) ?_
          have hP9 := hP.sub (ws' := [((a 200), .inr (21, [.int 2, .ref (a 201), .ref (a 202), .ref (a 203), .ref (a 204), .ref (a 205), .ref (a 206), .int 0, .int 0, .int 0, .int 0, .ref (a 208), .ref (a 209), .ref (a 210), .ref (a 211), .ref (a 212), .int 4, .int 12, .int (-1), .int 0, .ref (g 200), .ref (a 213), .int 0, .int 97, .ref (a 214), .ref (a 215), .ref (a 207), .null, .int 0]))]) [1] rfl
          have hD9 := hD.sub (ws' := [((a 200), .inr (21, [.int 2, .ref (a 201), .ref (a 202), .ref (a 203), .ref (a 204), .ref (a 205), .ref (a 206), .int 0, .int 0, .int 0, .int 0, .ref (a 208), .ref (a 209), .ref (a 210), .ref (a 211), .ref (a 212), .int 4, .int 12, .int (-1), .int 0, .ref (g 200), .ref (a 213), .int 0, .int 97, .ref (a 214), .ref (a 215), .ref (a 207), .null, .int 0]))]) [1] (by decide) rfl
          refine W.widen (k := 0) (n := 0) (Nat.le_of_ble_eq_true rfl) (Nat.le_of_ble_eq_true rfl) ?_
          exact W.iret (v := 0) hx hb hr (fun t ht9 hW9 => ⟨⟨0, 2, rfl, (Or.inr ⟨rfl, rfl, (Or.inr (Or.inl c_20))⟩), ⟨(by rw [ht9]; exact hP9), hD9⟩⟩, hS.F ht9⟩) hS.2.2 dX15_bridge_85 hlocks
      · exact absurd c_22 (by decide)
    · exact absurd c_21 (by decide)
  · obtain ⟨rfl, hw⟩ := hw
    have c_24 := hw
    have hP := ro1 hP hk1
    refine lv_if_ge (tgt := 15) hx hb dX15_bridge_8 (by decide) (fun c_25 => ?_) (fun c_25 => ?_)
    · refine lv_aload_n hx hb dX15_bridge_15 rfl (lv_at hl 0 rfl) ?_
      refine lv_iload_n hx hb dX15_bridge_16 rfl (lv_at hl 2 rfl) ?_
      have hPc : va_P D vwCl [((a 200), f_m a g), ((a 201), .inr (5, [.int 0, .ref (g 100), .int 0]))] _ := hP.sub (ws' := [((a 200), f_m a g), ((a 201), .inr (5, [.int 0, .ref (g 100), .int 0]))]) [0, 1] rfl
      have hDc : va_D (fun q => z0 ≤ q) [((a 200), f_m a g), ((a 201), .inr (5, [.int 0, .ref (g 100), .int 0]))] := (hD.to hAz).pick (ws' := [((a 200), f_m a g), ((a 201), .inr (5, [.int 0, .ref (g 100), .int 0]))]) [0, 1] (by decide) rfl
      have hFc := AnA (ws := [((a 200), f_m a g), ((a 201), .inr (5, [.int 0, .ref (g 100), .int 0]))]) hS.1
      refine va_calli (va_runV (As := [.int p1]) (rest := [.ref (a 200)]) ⟨hx, hb, hml, hown, ht⟩ (k_X15_isLine l D g z0 _ a p1) (cwV 1 ht (gV w_429 w_431 w_432 w_334 w_430) rfl rfl rfl (by decide +kernel) (le2 rfl rfl)) ⟨PP.blind, va_recv hK.1 hP (ci := 21) (q0 := 0) rfl rfl, PP.mk' hK hZ hz hAz hS hPc hDc⟩ rfl rfl hl.1 rfl (lv_room (Nat.le_of_ble_eq_true rfl)) dX15_bridge_17 (le2 rfl rfl)) hS (fun q _ h => hFc q h) hFc (fun r u t H locs ht1 hvm hw hB hz1 hk1 hS => ?_)
      obtain ⟨rfl, hw⟩ := hw
      have hP := ro1 hP hk1
      refine lv_if_eq (tgt := 31) hx hb dX15_bridge_20 (by decide) (fun c_26 => ?_) (fun c_26 => ?_)
      · refine lv_iconst (v := 2) hx hb dX15_bridge_31 (by decide) ?_
        refine lv_goto (tgt := 78) hx hb dX15_bridge_32 (by decide) ?_
        have hPc : va_P D vwCl [((a 200), f_m a g)] _ := hP.sub (ws' := [((a 200), f_m a g)]) [0] rfl
        have hDc : va_D (fun q => z0 ≤ q) [((a 200), f_m a g)] := (hD.to hAz).pick (ws' := [((a 200), f_m a g)]) [0] (by decide) rfl
        have hFc := va_free (wc := [((a 200), f_m a g)]) hD hS hA [0] rfl
        refine va_calli (va_runV (As := [.int 2]) (rest := []) ⟨hx, hb, hml, hown, ht⟩ (k_X15_isWrong_v2 l D g z0 _ a) (cwV 1 ht (gV w_376 w_378 w_379 w_334 w_377) rfl rfl rfl (by decide +kernel) (le2 rfl rfl)) ⟨PP.blind, va_recv hK.1 hP (ci := 21) (q0 := 0) rfl rfl, PP.mk' hK hZ hz hAz hS hPc hDc⟩ rfl rfl hl.1 rfl (lv_room (Nat.le_of_ble_eq_true rfl)) dX15_bridge_78 (le2 rfl rfl)) hS (fun q _ h => hFc q h) hFc (fun r u t H locs ht1 hvm hw hB hz1 hk1 hS => ?_)
        obtain ⟨rfl, hw⟩ := hw
        obtain ⟨hP1, hD1⟩ := hB
        rw [ht1] at hP1
        obtain ⟨hP, hD⟩ := va_join (wr := [((a 201), .inr (5, [.int 0, .ref (g 100), .int 0]))]) (w1 := [((a 200), .inr (21, [.int 2, .ref (a 201), .ref (a 202), .ref (a 203), .ref (a 204), .ref (a 205), .ref (a 206), .int 0, .int 0, .int 0, .int 0, .ref (a 208), .ref (a 209), .ref (a 210), .ref (a 211), .ref (a 212), .int 4, .int 12, .int (-1), .int 0, .ref (g 200), .ref (a 213), .int 0, .int 97, .ref (a 214), .ref (a 215), .ref (a 207), .null, .int 0]))]) hP hD [0] [1] rfl rfl (by decide) (by decide) hk1 hFc hP1 hD1
        have hP : va_P D vwCl [((a 201), .inr (5, [.int 0, .ref (g 100), .int 0])), ((a 200), .inr (21, [.int 2, .ref (a 201), .ref (a 202), .ref (a 203), .ref (a 204), .ref (a 205), .ref (a 206), .int 0, .int 0, .int 0, .int 0, .ref (a 208), .ref (a 209), .ref (a 210), .ref (a 211), .ref (a 212), .int 4, .int 12, .int (-1), .int 0, .ref (g 200), .ref (a 213), .int 0, .int 97, .ref (a 214), .ref (a 215), .ref (a 207), .null, .int 0]))] H := hP
        have hD : va_D (va_A [((a 200), f_m a g), ((a 201), .inr (5, [.int 0, .ref (g 100), .int 0]))] s.heap.size) [((a 201), .inr (5, [.int 0, .ref (g 100), .int 0])), ((a 200), .inr (21, [.int 2, .ref (a 201), .ref (a 202), .ref (a 203), .ref (a 204), .ref (a 205), .ref (a 206), .int 0, .int 0, .int 0, .int 0, .ref (a 208), .ref (a 209), .ref (a 210), .ref (a 211), .ref (a 212), .int 4, .int 12, .int (-1), .int 0, .ref (g 200), .ref (a 213), .int 0, .int 97, .ref (a 214), .ref (a 215), .ref (a 207), .null, .int 0]))] := hD
        refine lv_if_eq (tgt := 86) hx hb dX15_bridge_81 (by decide) (fun c_27 => ?_) (fun c_27 => ?_)
        · exact absurd c_27 (by decide)
        · refine lv_iconst (v := 0) hx hb dX15_bridge_84 (by decide) ?_
          have hP9 := hP.sub (ws' := [((a 200), .inr (21, [.int 2, .ref (a 201), .ref (a 202), .ref (a 203), .ref (a 204), .ref (a 205), .ref (a 206), .int 0, .int 0, .int 0, .int 0, .ref (a 208), .ref (a 209), .ref (a 210), .ref (a 211), .ref (a 212), .int 4, .int 12, .int (-1), .int 0, .ref (g 200), .ref (a 213), .int 0, .int 97, .ref (a 214), .ref (a 215), .ref (a 207), .null, .int 0]))]) [1] rfl
          have hD9 := hD.sub (ws' := [((a 200), .inr (21, [.int 2, .ref (a 201), .ref (a 202), .ref (a 203), .ref (a 204), .ref (a 205), .ref (a 206), .int 0, .int 0, .int 0, .int 0, .ref (a 208), .ref (a 209), .ref (a 210), .ref (a 211), .ref (a 212), .int 4, .int 12, .int (-1), .int 0, .ref (g 200), .ref (a 213), .int 0, .int 97, .ref (a 214), .ref (a 215), .ref (a 207), .null, .int 0]))]) [1] (by decide) rfl
          refine W.widen (k := 0) (n := 0) (Nat.le_of_ble_eq_true rfl) (Nat.le_of_ble_eq_true rfl) ?_
          exact W.iret (v := 0) hx hb hr (fun t ht9 hW9 => ⟨⟨0, 2, rfl, (Or.inr ⟨rfl, rfl, (Or.inr (Or.inr c_24))⟩), ⟨(by rw [ht9]; exact hP9), hD9⟩⟩, hS.F ht9⟩) hS.2.2 dX15_bridge_85 hlocks
      · exact absurd c_26 (by decide)
    · exact absurd c_25 (by decide)
set_option maxHeartbeats 4000000 in
set_option maxRecDepth 100000 in
theorem k_X15_candidates (l : Launch) (D : va_G) (g : Nat → ClassId) (z0 sz : Nat) (a : Nat → Nat) : Met l yX15_candidates (.code yX15_candidates cX15_candidates 5 (some (.object "java/util/List")) :: TG) (rmk 5 4 10 95) (va_Pc [.ref (a 200)] (PP D g z0 sz [((a 200), f_m a g), ((a 201), .inr (5, [.int 0, .ref (g 100), .int 0]))])) (va_Qr (fun (u : Unit) => True) (fun (u : Unit) (r : Nat) (t : State) => ∃ (q_1 : Nat), q_1 = r ∧ va_P D vwCl [(q_1, .inr (5, [.int 0, .ref (g 100), .int 0])), ((a 200), f_m a g), ((a 201), .inr (5, [.int 0, .ref (g 100), .int 0]))] t.heap ∧ va_D (va_A [((a 200), f_m a g), ((a 201), .inr (5, [.int 0, .ref (g 100), .int 0]))] sz) [(q_1, .inr (5, [.int 0, .ref (g 100), .int 0])), ((a 200), f_m a g), ((a 201), .inr (5, [.int 0, .ref (g 100), .int 0]))]) (va_A [((a 200), f_m a g), ((a 201), .inr (5, [.int 0, .ref (g 100), .int 0]))] sz)) 4 10 (va_A [((a 200), f_m a g), ((a 201), .inr (5, [.int 0, .ref (g 100), .int 0]))] sz) := by
  refine met0 (cc := cX15_candidates) (n := 5) (by decide) (Nat.le_of_ble_eq_true rfl) ?_
  intro p e s m args below meth c hx hb hr hml hown ht hlocks hnm hP0 hD0 hK hZ hsz hz ls hl
  subst hsz
  have hA : ∀ q : Nat, s.heap.size ≤ q → va_A [((a 200), f_m a g), ((a 201), .inr (5, [.int 0, .ref (g 100), .int 0]))] s.heap.size q := Anw
  have hAz : ∀ q, va_A [((a 200), f_m a g), ((a 201), .inr (5, [.int 0, .ref (g 100), .int 0]))] s.heap.size q → z0 ≤ q := Awz hz hD0
  have hS : va_S (va_A [((a 200), f_m a g), ((a 201), .inr (5, [.int 0, .ref (g 100), .int 0]))] s.heap.size) s.heap s.heap [] := va_S.rf
  have hD : va_D (va_A [((a 200), f_m a g), ((a 201), .inr (5, [.int 0, .ref (g 100), .int 0]))] s.heap.size) [((a 200), f_m a g), ((a 201), .inr (5, [.int 0, .ref (g 100), .int 0]))] := hD0.self
  have hP : va_P D vwCl [((a 200), f_m a g), ((a 201), .inr (5, [.int 0, .ref (g 100), .int 0]))] s.heap := hP0
  have hl : lv_has ls 5 [(0, .ref (a 200))] := hl
  refine va_new (ci := 5) (fs := [.int 0, .null, .int 0]) (C := RJx4a65c) (T := TJx4a65c) (N := 3) hx hb ht in_Jx4a65c tyJx4a65c tyJx4a65c_ok hown (ht _ w_335) (ht _ w_336) (ht _ w_323) hK.1 hP hD hS hA rfl (fun j hj => by rcases (show j = 0 ∨ j = 1 ∨ j = 2 by omega) with rfl | rfl | rfl <;> rfl) (Nat.le_of_ble_eq_true rfl) (Nat.le_of_ble_eq_true rfl) dX15_candidates_0 (fun q_1 H hP hD hS => ?_)
  have hP : va_P D vwCl [((a 200), f_m a g), ((a 201), .inr (5, [.int 0, .ref (g 100), .int 0])), (q_1, .inr (5, [.int 0, .null, .int 0]))] H := hP
  have hD : va_D (va_A [((a 200), f_m a g), ((a 201), .inr (5, [.int 0, .ref (g 100), .int 0]))] s.heap.size) [((a 200), f_m a g), ((a 201), .inr (5, [.int 0, .ref (g 100), .int 0])), (q_1, .inr (5, [.int 0, .null, .int 0]))] := hD
  refine lv_dup hx hb dX15_candidates_3 rfl ?_
  have hPc : va_P D vwCl [(q_1, .inr (5, [.int 0, .null, .int 0]))] _ := hP.sub (ws' := [(q_1, .inr (5, [.int 0, .null, .int 0]))]) [2] rfl
  have hDc : va_D (fun q => z0 ≤ q) [(q_1, .inr (5, [.int 0, .null, .int 0]))] := (hD.to hAz).pick (ws' := [(q_1, .inr (5, [.int 0, .null, .int 0]))]) [2] (by decide) rfl
  have hFc := va_free (wc := [(q_1, .inr (5, [.int 0, .null, .int 0]))]) hD hS hA [2] rfl
  refine va_callv (va_runI (As := []) (rest := [.ref q_1]) ⟨hx, hb, hml, hown, ht⟩ (k_Jx4a65c_init_da8c8 l D g z0 _ a q_1) (cwI 0 ht (gI w_350) rfl rfl rfl (ht _ w_323) (ht _ w_349) (ht _ w_351) rfl (by decide +kernel) (le2 rfl rfl)) ⟨PP.blind, PP.mk' hK hZ hz hAz hS hPc hDc⟩ rfl rfl hl.1 rfl (lv_room (Nat.le_of_ble_eq_true rfl)) dX15_candidates_4 (le2 rfl rfl)) hS (fun q _ h => hFc q h) hFc (fun u t H locs ht1 hvm hw hB hz1 hk1 hS => ?_)
  obtain ⟨hP1, hD1⟩ := hB
  rw [ht1] at hP1
  obtain ⟨hP, hD⟩ := va_join (wr := [((a 200), f_m a g), ((a 201), .inr (5, [.int 0, .ref (g 100), .int 0]))]) (w1 := [(q_1, .inr (5, [.int 0, .ref (g 100), .int 0]))]) hP hD [2] [0, 1] rfl rfl (by decide) (by decide) hk1 hFc hP1 hD1
  have hP : va_P D vwCl [((a 200), f_m a g), ((a 201), .inr (5, [.int 0, .ref (g 100), .int 0])), (q_1, .inr (5, [.int 0, .ref (g 100), .int 0]))] H := hP
  have hD : va_D (va_A [((a 200), f_m a g), ((a 201), .inr (5, [.int 0, .ref (g 100), .int 0]))] s.heap.size) [((a 200), f_m a g), ((a 201), .inr (5, [.int 0, .ref (g 100), .int 0])), (q_1, .inr (5, [.int 0, .ref (g 100), .int 0]))] := hD
  refine lv_astore_n (lv' := [(1, .ref q_1), (0, .ref (a 200))]) hx hb dX15_candidates_7 rfl hl (by decide) rfl (fun ls hl => ?_)
  refine lv_aload_n hx hb dX15_candidates_8 rfl (lv_at hl 1 rfl) ?_
  have hPc : va_P D vwCl [((a 200), f_m a g), ((a 201), .inr (5, [.int 0, .ref (g 100), .int 0]))] _ := hP.sub (ws' := [((a 200), f_m a g), ((a 201), .inr (5, [.int 0, .ref (g 100), .int 0]))]) [0, 1] rfl
  have hDc : va_D (fun q => z0 ≤ q) [((a 200), f_m a g), ((a 201), .inr (5, [.int 0, .ref (g 100), .int 0]))] := (hD.to hAz).pick (ws' := [((a 200), f_m a g), ((a 201), .inr (5, [.int 0, .ref (g 100), .int 0]))]) [0, 1] (by decide) rfl
  have hFc := va_free (wc := [((a 200), f_m a g), ((a 201), .inr (5, [.int 0, .ref (g 100), .int 0]))]) hD hS hA [0, 1] rfl
  refine va_callr (va_runV (As := []) (rest := []) ⟨hx, hb, hml, hown, ht⟩ (k_X15_allClasses l D g z0 _ a) (cwV 0 ht (gV w_364 w_366 w_367 w_334 w_365) rfl rfl rfl (by decide +kernel) (le2 rfl rfl)) ⟨PP.blind, va_recv hK.1 hP (ci := 21) (q0 := 0) rfl rfl, PP.mk' hK hZ hz hAz hS hPc hDc⟩ rfl rfl hl.1 rfl (lv_room (Nat.le_of_ble_eq_true rfl)) dX15_candidates_9 (le2 rfl rfl)) hS (fun q _ h => hFc q h) hFc (fun u ra t H locs ht1 hvm hw hB hz1 hk1 hS => ?_)
  obtain ⟨q_2, hr9, hP1, hD1⟩ := hB
  rw [ht1] at hP1
  obtain ⟨hP, hD⟩ := va_join (wr := [(q_1, .inr (5, [.int 0, .ref (g 100), .int 0]))]) (w1 := [(q_2, .inr (5, [.int 0, .ref (g 100), .int 0])), ((a 200), f_m a g), ((a 201), .inr (5, [.int 0, .ref (g 100), .int 0]))]) hP hD [0, 1] [2] rfl rfl (by decide) (by decide) hk1 hFc hP1 hD1
  subst hr9
  have hP : va_P D vwCl [(q_1, .inr (5, [.int 0, .ref (g 100), .int 0])), (q_2, .inr (5, [.int 0, .ref (g 100), .int 0])), ((a 200), f_m a g), ((a 201), .inr (5, [.int 0, .ref (g 100), .int 0]))] H := hP
  have hD : va_D (va_A [((a 200), f_m a g), ((a 201), .inr (5, [.int 0, .ref (g 100), .int 0]))] s.heap.size) [(q_1, .inr (5, [.int 0, .ref (g 100), .int 0])), (q_2, .inr (5, [.int 0, .ref (g 100), .int 0])), ((a 200), f_m a g), ((a 201), .inr (5, [.int 0, .ref (g 100), .int 0]))] := hD
  have hPc : va_P D vwCl [(q_2, .inr (5, [.int 0, .ref (g 100), .int 0]))] _ := hP.sub (ws' := [(q_2, .inr (5, [.int 0, .ref (g 100), .int 0]))]) [1] rfl
  have hDc : va_D (fun q => z0 ≤ q) [(q_2, .inr (5, [.int 0, .ref (g 100), .int 0]))] := (hD.to hAz).pick (ws' := [(q_2, .inr (5, [.int 0, .ref (g 100), .int 0]))]) [1] (by decide) rfl
  have hFc := va_free (wc := [(q_2, .inr (5, [.int 0, .ref (g 100), .int 0]))]) hD hS hA [1] rfl
  refine va_callFr (va_runF (As := []) (rest := []) (hK.1.1 5 _ rfl).2 ⟨hx, hb, hml, hown, ht⟩ (k_Jx4a65c_iterator_32c93 l D g z0 _ a q_2) (va_cwF 0 ht (gF w_319 w_321 w_322 w_323 w_320) rfl rfl rfl (hK.2.2.2.1 _ (List.mem_of_getElem? (i := 3) rfl)) (by decide +kernel) (le2 rfl rfl)) ⟨PP.blind, va_recv hK.1 hP (ci := 5) (q0 := 1) rfl rfl, PP.mk' hK hZ hz hAz hS hPc hDc⟩ rfl rfl hl.1 rfl (lv_room (Nat.le_of_ble_eq_true rfl)) dX15_candidates_12 (le2 rfl rfl)) hS (fun q _ h => hFc q h) hFc (fun u ra t H locs ht1 hvm hw hB hz1 hk1 hS => ?_)
  obtain ⟨q_3, hr9, hP1, hD1⟩ := hB
  rw [ht1] at hP1
  obtain ⟨hP, hD⟩ := va_join (wr := [(q_1, .inr (5, [.int 0, .ref (g 100), .int 0])), ((a 200), f_m a g), ((a 201), .inr (5, [.int 0, .ref (g 100), .int 0]))]) (w1 := [(q_3, .inr (4, [.int 0, .int (-1), .int 0, .ref q_2])), (q_2, .inr (5, [.int 0, .ref (g 100), .int 0]))]) hP hD [1] [0, 2, 3] rfl rfl (by decide) (by decide) hk1 hFc hP1 hD1
  subst hr9
  have hP : va_P D vwCl [(q_1, .inr (5, [.int 0, .ref (g 100), .int 0])), ((a 200), f_m a g), ((a 201), .inr (5, [.int 0, .ref (g 100), .int 0])), (q_3, .inr (4, [.int 0, .int (-1), .int 0, .ref q_2])), (q_2, .inr (5, [.int 0, .ref (g 100), .int 0]))] H := hP
  have hD : va_D (va_A [((a 200), f_m a g), ((a 201), .inr (5, [.int 0, .ref (g 100), .int 0]))] s.heap.size) [(q_1, .inr (5, [.int 0, .ref (g 100), .int 0])), ((a 200), f_m a g), ((a 201), .inr (5, [.int 0, .ref (g 100), .int 0])), (q_3, .inr (4, [.int 0, .int (-1), .int 0, .ref q_2])), (q_2, .inr (5, [.int 0, .ref (g 100), .int 0]))] := hD
  refine lv_astore_n (lv' := [(2, .ref q_3), (1, .ref q_1), (0, .ref (a 200))]) hx hb dX15_candidates_17 rfl hl (by decide) rfl (fun ls hl => ?_)
  refine lv_aload_n hx hb dX15_candidates_18 rfl (lv_at hl 0 rfl) ?_
  have hPc : va_P D vwCl [(q_3, .inr (4, [.int 0, .int (-1), .int 0, .ref q_2])), (q_2, .inr (5, [.int 0, .ref (g 100), .int 0]))] _ := hP.sub (ws' := [(q_3, .inr (4, [.int 0, .int (-1), .int 0, .ref q_2])), (q_2, .inr (5, [.int 0, .ref (g 100), .int 0]))]) [3, 4] rfl
  have hDc : va_D (fun q => z0 ≤ q) [(q_3, .inr (4, [.int 0, .int (-1), .int 0, .ref q_2])), (q_2, .inr (5, [.int 0, .ref (g 100), .int 0]))] := (hD.to hAz).pick (ws' := [(q_3, .inr (4, [.int 0, .int (-1), .int 0, .ref q_2])), (q_2, .inr (5, [.int 0, .ref (g 100), .int 0]))]) [3, 4] (by decide) rfl
  have hFc := AnA (ws := [((a 200), f_m a g), ((a 201), .inr (5, [.int 0, .ref (g 100), .int 0]))]) hS.1
  refine va_callFi (va_runF (As := []) (rest := []) (hK.1.1 4 _ rfl).2 ⟨hx, hb, hml, hown, ht⟩ (k_Jx35411_hasNext_aae02 l D g z0 _ a q_3 q_2) (va_cwF 0 ht (gF w_326 w_328 w_329 w_307 w_327) rfl rfl rfl (hK.2.2.2.1 _ (List.mem_of_getElem? (i := 4) rfl)) (by decide +kernel) (le2 rfl rfl)) ⟨PP.blind, va_recv hK.1 hP (ci := 4) (q0 := 3) rfl rfl, PP.mk' hK hZ hz hAz hS hPc hDc⟩ rfl rfl hl.1 rfl (lv_room (Nat.le_of_ble_eq_true rfl)) dX15_candidates_19 (le2 rfl rfl)) hS (fun q _ h => hFc q h) hFc (fun r u t H locs ht1 hvm hw hB hz1 hk1 hS => ?_)
  obtain ⟨rfl, hw⟩ := hw
  have hP := ro1 hP hk1
  refine lv_if_eq (tgt := 113) hx hb dX15_candidates_24 (by decide) (fun c_4 => ?_) (fun c_4 => ?_)
  · refine lv_aload_n hx hb dX15_candidates_113 rfl (lv_at hl 1 rfl) ?_
    have hP9 := hP.sub (ws' := [(q_1, .inr (5, [.int 0, .ref (g 100), .int 0])), ((a 200), f_m a g), ((a 201), .inr (5, [.int 0, .ref (g 100), .int 0]))]) [0, 1, 2] rfl
    have hD9 := hD.sub (ws' := [(q_1, .inr (5, [.int 0, .ref (g 100), .int 0])), ((a 200), f_m a g), ((a 201), .inr (5, [.int 0, .ref (g 100), .int 0]))]) [0, 1, 2] (by decide) rfl
    refine W.widen (k := 4) (n := 10) (Nat.le_of_ble_eq_true rfl) (Nat.le_of_ble_eq_true rfl) ?_
    exact W.aret (v := .ref q_1) hx hb hr (Or.inl ⟨_, rfl⟩) (Or.inr ⟨_, rfl⟩) (fun t ht9 hW9 => ⟨⟨(), _, rfl, trivial, ⟨q_1, rfl, (by rw [ht9]; exact hP9), hD9⟩⟩, hS.F ht9⟩) hS.2.2 dX15_candidates_114 hlocks
  · exact absurd c_4 (by decide)
set_option maxHeartbeats 4000000 in
set_option maxRecDepth 100000 in
theorem k_X15_candidate (l : Launch) (D : va_G) (g : Nat → ClassId) (z0 sz : Nat) (a : Nat → Nat) (p0 : Int32) : Met l yX15_candidate (.code yX15_candidate cX15_candidate 3 (some .int) :: TG) (rmk 6 4 10 119) (va_Pc [.ref (a 200), .int p0] (PP D g z0 sz [((a 200), f_m a g), ((a 201), .inr (5, [.int 0, .ref (g 100), .int 0]))])) (va_Qi (fun (r : Int32) (u : Unit) => (r = 0) ∧ True) (fun (u : Unit) (t : State) => va_P D vwCl [((a 200), .inr (21, [.int 1, .ref (a 201), .ref (a 202), .ref (a 203), .ref (a 204), .ref (a 205), .ref (a 206), .int 0, .int 0, .int 0, .int 0, .ref (a 208), .ref (a 209), .ref (a 210), .ref (a 211), .ref (a 212), .int 4, .int 12, .int (-1), .int 0, .ref (g 200), .ref (a 213), .int 0, .int 97, .ref (a 214), .ref (a 215), .ref (a 207), .null, .int 0]))] t.heap ∧ va_D (va_A [((a 200), f_m a g), ((a 201), .inr (5, [.int 0, .ref (g 100), .int 0]))] sz) [((a 200), .inr (21, [.int 1, .ref (a 201), .ref (a 202), .ref (a 203), .ref (a 204), .ref (a 205), .ref (a 206), .int 0, .int 0, .int 0, .int 0, .ref (a 208), .ref (a 209), .ref (a 210), .ref (a 211), .ref (a 212), .int 4, .int 12, .int (-1), .int 0, .ref (g 200), .ref (a 213), .int 0, .int 97, .ref (a 214), .ref (a 215), .ref (a 207), .null, .int 0]))]) (va_A [((a 200), f_m a g), ((a 201), .inr (5, [.int 0, .ref (g 100), .int 0]))] sz)) 4 10 (va_A [((a 200), f_m a g), ((a 201), .inr (5, [.int 0, .ref (g 100), .int 0]))] sz) := by
  refine met0 (cc := cX15_candidate) (n := 3) (by decide) (Nat.le_of_ble_eq_true rfl) ?_
  intro p e s m args below meth c hx hb hr hml hown ht hlocks hnm hP0 hD0 hK hZ hsz hz ls hl
  subst hsz
  have hA : ∀ q : Nat, s.heap.size ≤ q → va_A [((a 200), f_m a g), ((a 201), .inr (5, [.int 0, .ref (g 100), .int 0]))] s.heap.size q := Anw
  have hAz : ∀ q, va_A [((a 200), f_m a g), ((a 201), .inr (5, [.int 0, .ref (g 100), .int 0]))] s.heap.size q → z0 ≤ q := Awz hz hD0
  have hS : va_S (va_A [((a 200), f_m a g), ((a 201), .inr (5, [.int 0, .ref (g 100), .int 0]))] s.heap.size) s.heap s.heap [] := va_S.rf
  have hD : va_D (va_A [((a 200), f_m a g), ((a 201), .inr (5, [.int 0, .ref (g 100), .int 0]))] s.heap.size) [((a 200), f_m a g), ((a 201), .inr (5, [.int 0, .ref (g 100), .int 0]))] := hD0.self
  have hP : va_P D vwCl [((a 200), f_m a g), ((a 201), .inr (5, [.int 0, .ref (g 100), .int 0]))] s.heap := hP0
  have hl : lv_has ls 3 [(0, .ref (a 200)), (1, .int p0)] := hl
  refine lv_aload_n hx hb dX15_candidate_0 rfl (lv_at hl 0 rfl) ?_
  have hPc : va_P D vwCl [((a 200), f_m a g), ((a 201), .inr (5, [.int 0, .ref (g 100), .int 0]))] _ := hP.sub (ws' := [((a 200), f_m a g), ((a 201), .inr (5, [.int 0, .ref (g 100), .int 0]))]) [0, 1] rfl
  have hDc : va_D (fun q => z0 ≤ q) [((a 200), f_m a g), ((a 201), .inr (5, [.int 0, .ref (g 100), .int 0]))] := (hD.to hAz).pick (ws' := [((a 200), f_m a g), ((a 201), .inr (5, [.int 0, .ref (g 100), .int 0]))]) [0, 1] (by decide) rfl
  have hFc := va_free (wc := [((a 200), f_m a g), ((a 201), .inr (5, [.int 0, .ref (g 100), .int 0]))]) hD hS hA [0, 1] rfl
  refine va_callr (va_runV (As := []) (rest := []) ⟨hx, hb, hml, hown, ht⟩ (k_X15_candidates l D g z0 _ a) (cwV 0 ht (gV w_433 w_435 w_436 w_334 w_434) rfl rfl rfl (by decide +kernel) (le2 rfl rfl)) ⟨PP.blind, va_recv hK.1 hP (ci := 21) (q0 := 0) rfl rfl, PP.mk' hK hZ hz hAz hS hPc hDc⟩ rfl rfl hl.1 rfl (lv_room (Nat.le_of_ble_eq_true rfl)) dX15_candidate_1 (le2 rfl rfl)) hS (fun q _ h => hFc q h) hFc (fun u ra t H locs ht1 hvm hw hB hz1 hk1 hS => ?_)
  obtain ⟨q_1, hr9, hP1, hD1⟩ := hB
  rw [ht1] at hP1
  obtain ⟨hP, hD⟩ := va_join (wr := []) (w1 := [(q_1, .inr (5, [.int 0, .ref (g 100), .int 0])), ((a 200), f_m a g), ((a 201), .inr (5, [.int 0, .ref (g 100), .int 0]))]) hP hD [0, 1] [] rfl rfl (by decide) (by decide) hk1 hFc hP1 hD1
  subst hr9
  have hP : va_P D vwCl [(q_1, .inr (5, [.int 0, .ref (g 100), .int 0])), ((a 200), f_m a g), ((a 201), .inr (5, [.int 0, .ref (g 100), .int 0]))] H := hP
  have hD : va_D (va_A [((a 200), f_m a g), ((a 201), .inr (5, [.int 0, .ref (g 100), .int 0]))] s.heap.size) [(q_1, .inr (5, [.int 0, .ref (g 100), .int 0])), ((a 200), f_m a g), ((a 201), .inr (5, [.int 0, .ref (g 100), .int 0]))] := hD
  refine lv_astore_n (lv' := [(2, .ref q_1), (0, .ref (a 200)), (1, .int p0)]) hx hb dX15_candidate_4 rfl hl (by decide) rfl (fun ls hl => ?_)
  refine lv_aload_n hx hb dX15_candidate_5 rfl (lv_at hl 1 rfl) ?_
  refine lv_iload_n hx hb dX15_candidate_6 rfl (lv_at hl 2 rfl) ?_
  refine lv_iconst (v := 0) hx hb dX15_candidate_7 (by decide) ?_
  refine lv_aload_n hx hb dX15_candidate_8 rfl (lv_at hl 0 rfl) ?_
  have hPc : va_P D vwCl [(q_1, .inr (5, [.int 0, .ref (g 100), .int 0]))] _ := hP.sub (ws' := [(q_1, .inr (5, [.int 0, .ref (g 100), .int 0]))]) [0] rfl
  have hDc : va_D (fun q => z0 ≤ q) [(q_1, .inr (5, [.int 0, .ref (g 100), .int 0]))] := (hD.to hAz).pick (ws' := [(q_1, .inr (5, [.int 0, .ref (g 100), .int 0]))]) [0] (by decide) rfl
  have hFc := AnA (ws := [((a 200), f_m a g), ((a 201), .inr (5, [.int 0, .ref (g 100), .int 0]))]) hS.1
  refine va_callFi (va_runF (As := []) (rest := [.int 0, .int p0, .ref (a 200)]) (hK.1.1 5 _ rfl).2 ⟨hx, hb, hml, hown, ht⟩ (k_Jx4a65c_size_8abf5 l D g z0 _ a q_1) (va_cwF 0 ht (gF w_356 w_358 w_359 w_323 w_357) rfl rfl rfl (hK.2.2.2.1 _ (List.mem_of_getElem? (i := 0) rfl)) (by decide +kernel) (le2 rfl rfl)) ⟨PP.blind, va_recv hK.1 hP (ci := 5) (q0 := 0) rfl rfl, PP.mk' hK hZ hz hAz hS hPc hDc⟩ rfl rfl hl.1 rfl (lv_room (Nat.le_of_ble_eq_true rfl)) dX15_candidate_9 (le2 rfl rfl)) hS (fun q _ h => hFc q h) hFc (fun r u t H locs ht1 hvm hw hB hz1 hk1 hS => ?_)
  obtain ⟨rfl, hw⟩ := hw
  have hP := ro1 hP hk1
  refine lv_iconst (v := 1) hx hb dX15_candidate_14 (by decide) ?_
  refine lv_isub hx hb dX15_candidate_15 ?_
  refine r_topi (v := (-1)) (by decide) ?_
  have hPc : va_P D vwCl [] _ := hP.sub (ws' := []) [] rfl
  have hDc : va_D (fun q => z0 ≤ q) [] := (hD.to hAz).pick (ws' := []) [] (by decide) rfl
  have hFc := AnA (ws := [((a 200), f_m a g), ((a 201), .inr (5, [.int 0, .ref (g 100), .int 0]))]) hS.1
  refine va_calli (va_runS (As := [.int p0, .int 0, .int (-1)]) (rest := [.ref (a 200)]) ⟨hx, hb, hml, hown, ht⟩ (k_X15_isBetween l D g z0 _ a p0) (va_cwS 3 ht (gS w_369 w_371 w_334 w_370) rfl rfl rfl (by decide +kernel) (le2 rfl rfl)) ⟨PP.blind, PP.mk' hK hZ hz hAz hS hPc hDc⟩ rfl rfl hl.1 rfl (lv_room (Nat.le_of_ble_eq_true rfl)) dX15_candidate_16 (le2 rfl rfl)) hS (fun q _ h => hFc q h) hFc (fun r u t H locs ht1 hvm hw hB hz1 hk1 hS => ?_)
  obtain ⟨rfl, hw⟩ := hw
  have hP := ro1 hP hk1
  refine lv_if_eq (tgt := 26) hx hb dX15_candidate_19 (by decide) (fun c_2 => ?_) (fun c_2 => ?_)
  · refine lv_iconst (v := 1) hx hb dX15_candidate_26 (by decide) ?_
    have hPc : va_P D vwCl [((a 200), f_m a g)] _ := hP.sub (ws' := [((a 200), f_m a g)]) [1] rfl
    have hDc : va_D (fun q => z0 ≤ q) [((a 200), f_m a g)] := (hD.to hAz).pick (ws' := [((a 200), f_m a g)]) [1] (by decide) rfl
    have hFc := va_free (wc := [((a 200), f_m a g)]) hD hS hA [1] rfl
    refine va_calli (va_runV (As := [.int 1]) (rest := []) ⟨hx, hb, hml, hown, ht⟩ (k_X15_isWrong l D g z0 _ a) (cwV 1 ht (gV w_376 w_378 w_379 w_334 w_377) rfl rfl rfl (by decide +kernel) (le2 rfl rfl)) ⟨PP.blind, va_recv hK.1 hP (ci := 21) (q0 := 1) rfl rfl, PP.mk' hK hZ hz hAz hS hPc hDc⟩ rfl rfl hl.1 rfl (lv_room (Nat.le_of_ble_eq_true rfl)) dX15_candidate_27 (le2 rfl rfl)) hS (fun q _ h => hFc q h) hFc (fun r u t H locs ht1 hvm hw hB hz1 hk1 hS => ?_)
    obtain ⟨rfl, hw⟩ := hw
    obtain ⟨hP1, hD1⟩ := hB
    rw [ht1] at hP1
    obtain ⟨hP, hD⟩ := va_join (wr := [(q_1, .inr (5, [.int 0, .ref (g 100), .int 0])), ((a 201), .inr (5, [.int 0, .ref (g 100), .int 0]))]) (w1 := [((a 200), .inr (21, [.int 1, .ref (a 201), .ref (a 202), .ref (a 203), .ref (a 204), .ref (a 205), .ref (a 206), .int 0, .int 0, .int 0, .int 0, .ref (a 208), .ref (a 209), .ref (a 210), .ref (a 211), .ref (a 212), .int 4, .int 12, .int (-1), .int 0, .ref (g 200), .ref (a 213), .int 0, .int 97, .ref (a 214), .ref (a 215), .ref (a 207), .null, .int 0]))]) hP hD [1] [0, 2] rfl rfl (by decide) (by decide) hk1 hFc hP1 hD1
    have hP : va_P D vwCl [(q_1, .inr (5, [.int 0, .ref (g 100), .int 0])), ((a 201), .inr (5, [.int 0, .ref (g 100), .int 0])), ((a 200), .inr (21, [.int 1, .ref (a 201), .ref (a 202), .ref (a 203), .ref (a 204), .ref (a 205), .ref (a 206), .int 0, .int 0, .int 0, .int 0, .ref (a 208), .ref (a 209), .ref (a 210), .ref (a 211), .ref (a 212), .int 4, .int 12, .int (-1), .int 0, .ref (g 200), .ref (a 213), .int 0, .int 97, .ref (a 214), .ref (a 215), .ref (a 207), .null, .int 0]))] H := hP
    have hD : va_D (va_A [((a 200), f_m a g), ((a 201), .inr (5, [.int 0, .ref (g 100), .int 0]))] s.heap.size) [(q_1, .inr (5, [.int 0, .ref (g 100), .int 0])), ((a 201), .inr (5, [.int 0, .ref (g 100), .int 0])), ((a 200), .inr (21, [.int 1, .ref (a 201), .ref (a 202), .ref (a 203), .ref (a 204), .ref (a 205), .ref (a 206), .int 0, .int 0, .int 0, .int 0, .ref (a 208), .ref (a 209), .ref (a 210), .ref (a 211), .ref (a 212), .int 4, .int 12, .int (-1), .int 0, .ref (g 200), .ref (a 213), .int 0, .int 97, .ref (a 214), .ref (a 215), .ref (a 207), .null, .int 0]))] := hD
    refine lv_if_eq (tgt := 37) hx hb dX15_candidate_30 (by decide) (fun c_3 => ?_) (fun c_3 => ?_)
    · exact absurd c_3 (by decide)
    · refine lv_iconst (v := 0) hx hb dX15_candidate_33 (by decide) ?_
      refine lv_goto (tgt := 50) hx hb dX15_candidate_34 (by decide) ?_
      have hP9 := hP.sub (ws' := [((a 200), .inr (21, [.int 1, .ref (a 201), .ref (a 202), .ref (a 203), .ref (a 204), .ref (a 205), .ref (a 206), .int 0, .int 0, .int 0, .int 0, .ref (a 208), .ref (a 209), .ref (a 210), .ref (a 211), .ref (a 212), .int 4, .int 12, .int (-1), .int 0, .ref (g 200), .ref (a 213), .int 0, .int 97, .ref (a 214), .ref (a 215), .ref (a 207), .null, .int 0]))]) [2] rfl
      have hD9 := hD.sub (ws' := [((a 200), .inr (21, [.int 1, .ref (a 201), .ref (a 202), .ref (a 203), .ref (a 204), .ref (a 205), .ref (a 206), .int 0, .int 0, .int 0, .int 0, .ref (a 208), .ref (a 209), .ref (a 210), .ref (a 211), .ref (a 212), .int 4, .int 12, .int (-1), .int 0, .ref (g 200), .ref (a 213), .int 0, .int 97, .ref (a 214), .ref (a 215), .ref (a 207), .null, .int 0]))]) [2] (by decide) rfl
      refine W.widen (k := 4) (n := 10) (Nat.le_of_ble_eq_true rfl) (Nat.le_of_ble_eq_true rfl) ?_
      exact W.iret (v := 0) hx hb hr (fun t ht9 hW9 => ⟨⟨0, (), rfl, ⟨rfl, trivial⟩, ⟨(by rw [ht9]; exact hP9), hD9⟩⟩, hS.F ht9⟩) hS.2.2 dX15_candidate_50 hlocks
  · exact absurd c_2 (by decide)
set_option maxHeartbeats 4000000 in
set_option maxRecDepth 100000 in
theorem k_X13_init (l : Launch) (D : va_G) (g : Nat → ClassId) (z0 sz : Nat) (a : Nat → Nat) (h0 : Nat) (p0 : Int32) (h1 : Nat) (hc_p0 : isC p0) : Met l yX13_init (.code yX13_init cX13_init 3 none :: TG) (rmk 1 0 0 12) (va_Pc [.ref h0, .int p0, .ref h1] (PP D g z0 sz [(h0, .inr (19, [.int 0, .null, .int 0, .int 0, .int 0, .int 0, .int 0, .int 0]))])) (va_Qv (fun (u : Unit) => True) (fun (u : Unit) (t : State) => va_P D vwCl [(h0, .inr (19, [.int p0, .ref h1, .int (-1), .int (-1), .int 0, .int (-1), .int 0, .int 0]))] t.heap ∧ va_D (va_A [(h0, .inr (19, [.int 0, .null, .int 0, .int 0, .int 0, .int 0, .int 0, .int 0]))] sz) [(h0, .inr (19, [.int p0, .ref h1, .int (-1), .int (-1), .int 0, .int (-1), .int 0, .int 0]))]) (va_A [(h0, .inr (19, [.int 0, .null, .int 0, .int 0, .int 0, .int 0, .int 0, .int 0]))] sz)) 0 0 (va_A [(h0, .inr (19, [.int 0, .null, .int 0, .int 0, .int 0, .int 0, .int 0, .int 0]))] sz) := by
  refine met0 (cc := cX13_init) (n := 3) (by decide) (Nat.le_of_ble_eq_true rfl) ?_
  intro p e s m args below meth c hx hb hr hml hown ht hlocks hnm hP0 hD0 hK hZ hsz hz ls hl
  subst hsz
  have hA : ∀ q : Nat, s.heap.size ≤ q → va_A [(h0, .inr (19, [.int 0, .null, .int 0, .int 0, .int 0, .int 0, .int 0, .int 0]))] s.heap.size q := Anw
  have hAz : ∀ q, va_A [(h0, .inr (19, [.int 0, .null, .int 0, .int 0, .int 0, .int 0, .int 0, .int 0]))] s.heap.size q → z0 ≤ q := Awz hz hD0
  have hS : va_S (va_A [(h0, .inr (19, [.int 0, .null, .int 0, .int 0, .int 0, .int 0, .int 0, .int 0]))] s.heap.size) s.heap s.heap [] := va_S.rf
  have hD : va_D (va_A [(h0, .inr (19, [.int 0, .null, .int 0, .int 0, .int 0, .int 0, .int 0, .int 0]))] s.heap.size) [(h0, .inr (19, [.int 0, .null, .int 0, .int 0, .int 0, .int 0, .int 0, .int 0]))] := hD0.self
  have hP : va_P D vwCl [(h0, .inr (19, [.int 0, .null, .int 0, .int 0, .int 0, .int 0, .int 0, .int 0]))] s.heap := hP0
  have hl : lv_has ls 3 [(0, .ref h0), (1, .int p0), (2, .ref h1)] := hl
  refine lv_aload_n hx hb dX13_init_0 rfl (lv_at hl 0 rfl) ?_
  refine W.objInit hx hb hown (ht _ w_441) (ht _ w_311) (ht _ w_309) rfl (by rw [hml]; exact hl.1) rfl dX13_init_1 (Nat.le_of_ble_eq_true rfl) (Nat.le_of_ble_eq_true rfl) ?_
  refine W.eq (g2 := F0 m 4 ls []) rfl ?_
  refine lv_aload_n hx hb dX13_init_4 rfl (lv_at hl 0 rfl) ?_
  refine lv_iconst (v := (-1)) hx hb dX13_init_5 (by decide) ?_
  refine va_put (D := D) (ci := 19) (v := .int (-1)) (ty := .int) (C := RX13) (T := TX13) (N := 8) hx hb ht in_X13 tyX13 tyX13_ok nmX13 hown hK.1 hP hD hS 0 rfl rfl 2 (by decide) (ht _ w_442) (fun _ h9 => h9) rfl (by decide +kernel) rfl rfl (Nat.le_of_ble_eq_true rfl) dX13_init_6 (fun H locs hP hD hS => ?_)
  have hP : va_P D vwCl [(h0, .inr (19, [.int 0, .null, .int (-1), .int 0, .int 0, .int 0, .int 0, .int 0]))] H := hP
  have hD : va_D (va_A [(h0, .inr (19, [.int 0, .null, .int 0, .int 0, .int 0, .int 0, .int 0, .int 0]))] s.heap.size) [(h0, .inr (19, [.int 0, .null, .int (-1), .int 0, .int 0, .int 0, .int 0, .int 0]))] := hD
  refine lv_aload_n hx hb dX13_init_9 rfl (lv_at hl 0 rfl) ?_
  refine lv_iconst (v := (-1)) hx hb dX13_init_10 (by decide) ?_
  refine va_put (D := D) (ci := 19) (v := .int (-1)) (ty := .int) (C := RX13) (T := TX13) (N := 8) hx hb ht in_X13 tyX13 tyX13_ok nmX13 hown hK.1 hP hD hS 0 rfl rfl 3 (by decide) (ht _ w_443) (fun _ h9 => h9) rfl (by decide +kernel) rfl rfl (Nat.le_of_ble_eq_true rfl) dX13_init_11 (fun H locs hP hD hS => ?_)
  have hP : va_P D vwCl [(h0, .inr (19, [.int 0, .null, .int (-1), .int (-1), .int 0, .int 0, .int 0, .int 0]))] H := hP
  have hD : va_D (va_A [(h0, .inr (19, [.int 0, .null, .int 0, .int 0, .int 0, .int 0, .int 0, .int 0]))] s.heap.size) [(h0, .inr (19, [.int 0, .null, .int (-1), .int (-1), .int 0, .int 0, .int 0, .int 0]))] := hD
  refine lv_aload_n hx hb dX13_init_14 rfl (lv_at hl 0 rfl) ?_
  refine lv_iconst (v := (-1)) hx hb dX13_init_15 (by decide) ?_
  refine va_put (D := D) (ci := 19) (v := .int (-1)) (ty := .int) (C := RX13) (T := TX13) (N := 8) hx hb ht in_X13 tyX13 tyX13_ok nmX13 hown hK.1 hP hD hS 0 rfl rfl 5 (by decide) (ht _ w_444) (fun _ h9 => h9) rfl (by decide +kernel) rfl rfl (Nat.le_of_ble_eq_true rfl) dX13_init_16 (fun H locs hP hD hS => ?_)
  have hP : va_P D vwCl [(h0, .inr (19, [.int 0, .null, .int (-1), .int (-1), .int 0, .int (-1), .int 0, .int 0]))] H := hP
  have hD : va_D (va_A [(h0, .inr (19, [.int 0, .null, .int 0, .int 0, .int 0, .int 0, .int 0, .int 0]))] s.heap.size) [(h0, .inr (19, [.int 0, .null, .int (-1), .int (-1), .int 0, .int (-1), .int 0, .int 0]))] := hD
  refine lv_aload_n hx hb dX13_init_19 rfl (lv_at hl 0 rfl) ?_
  refine lv_iload_n hx hb dX13_init_20 rfl (lv_at hl 1 rfl) ?_
  refine va_putF (D := D) (ci := 19) (v := .int p0) (ty := .char) (C := RX13) (T := TX13) (N := 8) hx hb ht in_X13 tyX13 tyX13_ok nmX13 hown hK.1 hP hD hS 0 rfl rfl 0 (by decide) (ht _ w_445) (fun _ h9 => h9) rfl hnm rfl (by decide +kernel) hc_p0.1 hc_p0.2 (Nat.le_of_ble_eq_true rfl) dX13_init_21 (fun H locs hP hD hS => ?_)
  have hP : va_P D vwCl [(h0, .inr (19, [.int p0, .null, .int (-1), .int (-1), .int 0, .int (-1), .int 0, .int 0]))] H := hP
  have hD : va_D (va_A [(h0, .inr (19, [.int 0, .null, .int 0, .int 0, .int 0, .int 0, .int 0, .int 0]))] s.heap.size) [(h0, .inr (19, [.int p0, .null, .int (-1), .int (-1), .int 0, .int (-1), .int 0, .int 0]))] := hD
  refine lv_aload_n hx hb dX13_init_24 rfl (lv_at hl 0 rfl) ?_
  refine lv_aload_n hx hb dX13_init_25 rfl (lv_at hl 2 rfl) ?_
  refine va_putF (D := D) (ci := 19) (v := .ref h1) (ty := .array .int) (C := RX13) (T := TX13) (N := 8) hx hb ht in_X13 tyX13 tyX13_ok nmX13 hown hK.1 hP hD hS 0 rfl rfl 1 (by decide) (ht _ w_446) (fun _ h9 => h9) rfl hnm rfl (by decide +kernel) rfl rfl (Nat.le_of_ble_eq_true rfl) dX13_init_26 (fun H locs hP hD hS => ?_)
  have hP : va_P D vwCl [(h0, .inr (19, [.int p0, .ref h1, .int (-1), .int (-1), .int 0, .int (-1), .int 0, .int 0]))] H := hP
  have hD : va_D (va_A [(h0, .inr (19, [.int 0, .null, .int 0, .int 0, .int 0, .int 0, .int 0, .int 0]))] s.heap.size) [(h0, .inr (19, [.int p0, .ref h1, .int (-1), .int (-1), .int 0, .int (-1), .int 0, .int 0]))] := hD
  have hP9 := hP.sub (ws' := [(h0, .inr (19, [.int p0, .ref h1, .int (-1), .int (-1), .int 0, .int (-1), .int 0, .int 0]))]) [0] rfl
  have hD9 := hD.sub (ws' := [(h0, .inr (19, [.int p0, .ref h1, .int (-1), .int (-1), .int 0, .int (-1), .int 0, .int 0]))]) [0] (by decide) rfl
  refine W.widen (k := 0) (n := 0) (Nat.le_of_ble_eq_true rfl) (Nat.le_of_ble_eq_true rfl) ?_
  exact W.vret hx hb hr (fun t ht9 hW9 => ⟨⟨(), rfl, trivial, ⟨(by rw [ht9]; exact hP9), hD9⟩⟩, hS.F ht9⟩) hS.2.2 dX13_init_29 hlocks
set_option maxHeartbeats 4000000 in
set_option maxRecDepth 100000 in
theorem k_J6_valueOf_2dffe (l : Launch) (D : va_G) (g : Nat → ClassId) (z0 sz : Nat) (a : Nat → Nat) : Met l yJ6_valueOf_2dffe (.code yJ6_valueOf_2dffe cJ6_valueOf_2dffe 1 (some (.object "java/lang/Integer")) :: TG) (rmk 0 0 0 0) (va_Pc [.int 0] (PP D g z0 sz [])) (va_Qr (fun (u : Unit) => True) (fun (_ : Unit) (r : Nat) (_ : State) => (g 1128) = r) (va_A [] sz)) 0 0 (va_A [] sz) := by
  refine met0 (cc := cJ6_valueOf_2dffe) (n := 1) (by decide) (Nat.le_of_ble_eq_true rfl) ?_
  intro p e s m args below meth c hx hb hr hml hown ht hlocks hnm hP0 hD0 hK hZ hsz hz ls hl
  subst hsz
  have hA : ∀ q : Nat, s.heap.size ≤ q → va_A [] s.heap.size q := Anw
  have hAz : ∀ q, va_A [] s.heap.size q → z0 ≤ q := A0z hz
  have hS : va_S (va_A [] s.heap.size) s.heap s.heap [] := va_S.rf
  have hl : lv_has ls 1 [(0, .int 0)] := hl
  refine lv_iload_n hx hb dJ6_valueOf_2dffe_0 rfl (lv_at hl 0 rfl) ?_
  refine lv_bipush (v := (-128)) hx hb dJ6_valueOf_2dffe_1 (by decide) ?_
  refine lv_icmp_lt (tgt := 23) hx hb dJ6_valueOf_2dffe_3 (by decide) (fun c_1 => ?_) (fun c_1 => ?_)
  · exact absurd c_1 (by decide)
  · refine lv_iload_n hx hb dJ6_valueOf_2dffe_6 rfl (lv_at hl 0 rfl) ?_
    refine va_gets (C := "java/lang/Integer$IntegerCache") (n := "high") (d := "I") (v := .int 127) hx hb (hZ.m hAz).2.2.2.2.1 hS hown (ht _ w_451) (fun _ h9 => h9) dJ6_valueOf_2dffe_7 ?_
    refine lv_icmp_gt (tgt := 23) hx hb dJ6_valueOf_2dffe_10 (by decide) (fun c_2 => ?_) (fun c_2 => ?_)
    · exact absurd c_2 (by decide)
    · refine va_gets (C := "java/lang/Integer$IntegerCache") (n := "cache") (d := "[Ljava/lang/Integer;") (v := .ref (g 101)) hx hb (hZ.m hAz).2.2.2.2.2.1 hS hown (ht _ w_452) (fun _ h9 => h9) dJ6_valueOf_2dffe_13 ?_
      refine lv_iload_n hx hb dJ6_valueOf_2dffe_16 rfl (lv_at hl 0 rfl) ?_
      refine lv_sipush (v := 128) hx hb dJ6_valueOf_2dffe_17 (by decide) ?_
      refine lv_iadd hx hb dJ6_valueOf_2dffe_20 ?_
      refine r_topi (v := 128) (by decide) ?_
      refine vb_tq (v := .ref (g 1128)) hx hb (hZ.m hAz).2.2.2.2.2.2.1 hS (by unfold vp_in; decide) (congrArg (fun j => Value.ref (g j)) (by decide)) dJ6_valueOf_2dffe_21 ?_
      refine W.widen (k := 0) (n := 0) (Nat.le_of_ble_eq_true rfl) (Nat.le_of_ble_eq_true rfl) ?_
      exact W.aret (v := .ref (g 1128)) hx hb hr (Or.inl ⟨_, rfl⟩) (Or.inr ⟨_, rfl⟩) (fun t ht9 hW9 => ⟨⟨(), _, rfl, trivial, rfl⟩, hS.F ht9⟩) hS.2.2 dJ6_valueOf_2dffe_22 hlocks
set_option maxHeartbeats 4000000 in
set_option maxRecDepth 100000 in
theorem k_Jx4a65c_grow_92f84 (l : Launch) (D : va_G) (g : Nat → ClassId) (z0 sz : Nat) (a : Nat → Nat) (h0 : Nat) : Met l yJx4a65c_grow_92f84 (.code yJx4a65c_grow_92f84 cJx4a65c_grow_92f84 4 (some (.array (.object "java/lang/Object"))) :: TG) (rmk 1 1 10 14) (va_Pc [.ref h0, .int 1] (PP D g z0 sz [(h0, .inr (5, [.int 1, .ref (g 100), .int 0]))])) (va_Qr (fun (u : Unit) => True) (fun (u : Unit) (r : Nat) (t : State) => ∃ (q_2 : Nat), q_2 = r ∧ va_P D vwCl [(h0, .inr (5, [.int 1, .ref q_2, .int 0])), (q_2, .inl (g 8, 10, .inr (.inr (.inr (.inr (fun _ => none))))))] t.heap ∧ va_D (va_A [(h0, .inr (5, [.int 1, .ref (g 100), .int 0]))] sz) [(h0, .inr (5, [.int 1, .ref q_2, .int 0])), (q_2, .inl (g 8, 10, .inr (.inr (.inr (.inr (fun _ => none))))))]) (va_A [(h0, .inr (5, [.int 1, .ref (g 100), .int 0]))] sz)) 1 10 (va_A [(h0, .inr (5, [.int 1, .ref (g 100), .int 0]))] sz) := by
  refine met0 (cc := cJx4a65c_grow_92f84) (n := 4) (by decide) (Nat.le_of_ble_eq_true rfl) ?_
  intro p e s m args below meth c hx hb hr hml hown ht hlocks hnm hP0 hD0 hK hZ hsz hz ls hl
  subst hsz
  have hA : ∀ q : Nat, s.heap.size ≤ q → va_A [(h0, .inr (5, [.int 1, .ref (g 100), .int 0]))] s.heap.size q := Anw
  have hAz : ∀ q, va_A [(h0, .inr (5, [.int 1, .ref (g 100), .int 0]))] s.heap.size q → z0 ≤ q := Awz hz hD0
  have hS : va_S (va_A [(h0, .inr (5, [.int 1, .ref (g 100), .int 0]))] s.heap.size) s.heap s.heap [] := va_S.rf
  have hD : va_D (va_A [(h0, .inr (5, [.int 1, .ref (g 100), .int 0]))] s.heap.size) [(h0, .inr (5, [.int 1, .ref (g 100), .int 0]))] := hD0.self
  have hP : va_P D vwCl [(h0, .inr (5, [.int 1, .ref (g 100), .int 0]))] s.heap := hP0
  have hl : lv_has ls 4 [(0, .ref h0), (1, .int 1)] := hl
  refine lv_aload_n hx hb dJx4a65c_grow_92f84_0 rfl (lv_at hl 0 rfl) ?_
  refine va_get (D := D) (ci := 5) (v := .ref (g 100)) (C := RJx4a65c) (T := TJx4a65c) (N := 3) hx hb ht in_Jx4a65c hown hK.1 hP 0 rfl rfl 1 (by decide) (ht _ w_348) (fun _ h9 => h9) rfl dJx4a65c_grow_92f84_1 ?_
  refine va_tlen (v := 0) hx hb (hZ.m hAz).2.1 hS rfl dJx4a65c_grow_92f84_4 ?_
  refine lv_istore_n (lv' := [(2, .int 0), (0, .ref h0), (1, .int 1)]) hx hb dJx4a65c_grow_92f84_5 rfl hl (by decide) rfl (fun ls hl => ?_)
  refine lv_iload_n hx hb dJx4a65c_grow_92f84_6 rfl (lv_at hl 0 rfl) ?_
  refine lv_if_gt (tgt := 20) hx hb dJx4a65c_grow_92f84_7 (by decide) (fun c_1 => ?_) (fun c_1 => ?_)
  · exact absurd c_1 (by decide)
  · refine lv_aload_n hx hb dJx4a65c_grow_92f84_10 rfl (lv_at hl 1 rfl) ?_
    refine va_get (D := D) (ci := 5) (v := .ref (g 100)) (C := RJx4a65c) (T := TJx4a65c) (N := 3) hx hb ht in_Jx4a65c hown hK.1 hP 0 rfl rfl 1 (by decide) (ht _ w_348) (fun _ h9 => h9) rfl dJx4a65c_grow_92f84_11 ?_
    refine va_gets (C := "java/util/ArrayList") (n := "DEFAULTCAPACITY_EMPTY_ELEMENTDATA") (d := "[Ljava/lang/Object;") (v := .ref (g 100)) hx hb (hZ.m hAz).1 hS hown (ht _ w_347) (fun _ h9 => h9) dJx4a65c_grow_92f84_14 ?_
    refine lv_acmp_eq (rx := (some (g 100))) (ry := (some (g 100))) (tgt := 45) hx hb dJx4a65c_grow_92f84_17 (by decide) (fun _ => ?_) (fun h9 => absurd rfl h9)
    refine lv_aload_n hx hb dJx4a65c_grow_92f84_45 rfl (lv_at hl 1 rfl) ?_
    refine lv_bipush (v := 10) hx hb dJx4a65c_grow_92f84_46 (by decide) ?_
    refine lv_iload_n hx hb dJx4a65c_grow_92f84_48 rfl (lv_at hl 2 rfl) ?_
    refine va_mmax hx hb (hml.trans hl.1.symm) hown (ht _ w_457) (ht _ w_409) (ht _ w_410) (ht _ w_411) (Nat.le_of_ble_eq_true rfl) (Nat.le_of_ble_eq_true rfl) (Nat.le_of_ble_eq_true rfl) (Nat.le_of_ble_eq_true rfl) dJx4a65c_grow_92f84_49 ?_
    refine r_topi (v := 10) (by decide) ?_
    refine r_newq hx hb hown (ht _ w_458) hK hP hD hS hA (N' := 10) (by decide) (by decide) (by decide) (Nat.le_of_ble_eq_true rfl) (Nat.le_of_ble_eq_true rfl) dJx4a65c_grow_92f84_52 (fun q_2 H hP hD hS => ?_)
    have hP : va_P D vwCl [(h0, .inr (5, [.int 1, .ref (g 100), .int 0])), (q_2, .inl (g 8, 10, .inr (.inr (.inr (.inr (fun _ => none))))))] H := hP
    have hD : va_D (va_A [(h0, .inr (5, [.int 1, .ref (g 100), .int 0]))] s.heap.size) [(h0, .inr (5, [.int 1, .ref (g 100), .int 0])), (q_2, .inl (g 8, 10, .inr (.inr (.inr (.inr (fun _ => none))))))] := hD
    refine lv_dup_x1 hx hb dJx4a65c_grow_92f84_55 rfl rfl ?_
    refine va_put (D := D) (ci := 5) (v := .ref q_2) (ty := .array (.object "java/lang/Object")) (C := RJx4a65c) (T := TJx4a65c) (N := 3) hx hb ht in_Jx4a65c tyJx4a65c tyJx4a65c_ok nmJx4a65c hown hK.1 hP hD hS 0 rfl rfl 1 (by decide) (ht _ w_348) (fun _ h9 => h9) rfl (by decide +kernel) rfl rfl (Nat.le_of_ble_eq_true rfl) dJx4a65c_grow_92f84_56 (fun H locs hP hD hS => ?_)
    have hP : va_P D vwCl [(h0, .inr (5, [.int 1, .ref q_2, .int 0])), (q_2, .inl (g 8, 10, .inr (.inr (.inr (.inr (fun _ => none))))))] H := hP
    have hD : va_D (va_A [(h0, .inr (5, [.int 1, .ref (g 100), .int 0]))] s.heap.size) [(h0, .inr (5, [.int 1, .ref q_2, .int 0])), (q_2, .inl (g 8, 10, .inr (.inr (.inr (.inr (fun _ => none))))))] := hD
    have hP9 := hP.sub (ws' := [(h0, .inr (5, [.int 1, .ref q_2, .int 0])), (q_2, .inl (g 8, 10, .inr (.inr (.inr (.inr (fun _ => none))))))]) [0, 1] rfl
    have hD9 := hD.sub (ws' := [(h0, .inr (5, [.int 1, .ref q_2, .int 0])), (q_2, .inl (g 8, 10, .inr (.inr (.inr (.inr (fun _ => none))))))]) [0, 1] (by decide) rfl
    refine W.widen (k := 1) (n := 10) (Nat.le_of_ble_eq_true rfl) (Nat.le_of_ble_eq_true rfl) ?_
    exact W.aret (v := .ref q_2) hx hb hr (Or.inr ⟨_, rfl⟩) (Or.inr ⟨_, rfl⟩) (fun t ht9 hW9 => ⟨⟨(), _, rfl, trivial, ⟨q_2, rfl, (by rw [ht9]; exact hP9), hD9⟩⟩, hS.F ht9⟩) hS.2.2 dJx4a65c_grow_92f84_59 hlocks
set_option maxHeartbeats 4000000 in
set_option maxRecDepth 100000 in
theorem k_Jx4a65c_grow_d5877 (l : Launch) (D : va_G) (g : Nat → ClassId) (z0 sz : Nat) (a : Nat → Nat) (h0 : Nat) : Met l yJx4a65c_grow_d5877 (.code yJx4a65c_grow_d5877 cJx4a65c_grow_d5877 1 (some (.array (.object "java/lang/Object"))) :: TG) (rmk 2 1 10 37) (va_Pc [.ref h0] (PP D g z0 sz [(h0, .inr (5, [.int 1, .ref (g 100), .int 0]))])) (va_Qr (fun (u : Unit) => True) (fun (u : Unit) (r : Nat) (t : State) => ∃ (q_1 : Nat), q_1 = r ∧ va_P D vwCl [(h0, .inr (5, [.int 1, .ref q_1, .int 0])), (q_1, .inl (g 8, 10, .inr (.inr (.inr (.inr (fun _ => none))))))] t.heap ∧ va_D (va_A [(h0, .inr (5, [.int 1, .ref (g 100), .int 0]))] sz) [(h0, .inr (5, [.int 1, .ref q_1, .int 0])), (q_1, .inl (g 8, 10, .inr (.inr (.inr (.inr (fun _ => none))))))]) (va_A [(h0, .inr (5, [.int 1, .ref (g 100), .int 0]))] sz)) 1 10 (va_A [(h0, .inr (5, [.int 1, .ref (g 100), .int 0]))] sz) := by
  refine met0 (cc := cJx4a65c_grow_d5877) (n := 1) (by decide) (Nat.le_of_ble_eq_true rfl) ?_
  intro p e s m args below meth c hx hb hr hml hown ht hlocks hnm hP0 hD0 hK hZ hsz hz ls hl
  subst hsz
  have hA : ∀ q : Nat, s.heap.size ≤ q → va_A [(h0, .inr (5, [.int 1, .ref (g 100), .int 0]))] s.heap.size q := Anw
  have hAz : ∀ q, va_A [(h0, .inr (5, [.int 1, .ref (g 100), .int 0]))] s.heap.size q → z0 ≤ q := Awz hz hD0
  have hS : va_S (va_A [(h0, .inr (5, [.int 1, .ref (g 100), .int 0]))] s.heap.size) s.heap s.heap [] := va_S.rf
  have hD : va_D (va_A [(h0, .inr (5, [.int 1, .ref (g 100), .int 0]))] s.heap.size) [(h0, .inr (5, [.int 1, .ref (g 100), .int 0]))] := hD0.self
  have hP : va_P D vwCl [(h0, .inr (5, [.int 1, .ref (g 100), .int 0]))] s.heap := hP0
  have hl : lv_has ls 1 [(0, .ref h0)] := hl
  refine lv_aload_n hx hb dJx4a65c_grow_d5877_0 rfl (lv_at hl 0 rfl) ?_
  refine lv_aload_n hx hb dJx4a65c_grow_d5877_1 rfl (lv_at hl 0 rfl) ?_
  refine va_get (D := D) (ci := 5) (v := .int 0) (C := RJx4a65c) (T := TJx4a65c) (N := 3) hx hb ht in_Jx4a65c hown hK.1 hP 0 rfl rfl 2 (by decide) (ht _ w_355) (fun _ h9 => h9) rfl dJx4a65c_grow_d5877_2 ?_
  refine lv_iconst (v := 1) hx hb dJx4a65c_grow_d5877_5 (by decide) ?_
  refine lv_iadd hx hb dJx4a65c_grow_d5877_6 ?_
  refine r_topi (v := 1) (by decide) ?_
  have hPc : va_P D vwCl [(h0, .inr (5, [.int 1, .ref (g 100), .int 0]))] _ := hP.sub (ws' := [(h0, .inr (5, [.int 1, .ref (g 100), .int 0]))]) [0] rfl
  have hDc : va_D (fun q => z0 ≤ q) [(h0, .inr (5, [.int 1, .ref (g 100), .int 0]))] := (hD.to hAz).pick (ws' := [(h0, .inr (5, [.int 1, .ref (g 100), .int 0]))]) [0] (by decide) rfl
  have hFc := va_free (wc := [(h0, .inr (5, [.int 1, .ref (g 100), .int 0]))]) hD hS hA [0] rfl
  refine va_callr (va_runV (As := [.int 1]) (rest := []) ⟨hx, hb, hml, hown, ht⟩ (k_Jx4a65c_grow_92f84 l D g z0 _ a h0) (cwV 1 ht (gV w_459 w_461 w_462 w_323 w_460) rfl rfl rfl (by decide +kernel) (le2 rfl rfl)) ⟨PP.blind, va_recv hK.1 hP (ci := 5) (q0 := 0) rfl rfl, PP.mk' hK hZ hz hAz hS hPc hDc⟩ rfl rfl hl.1 rfl (lv_room (Nat.le_of_ble_eq_true rfl)) dJx4a65c_grow_d5877_7 (le2 rfl rfl)) hS (fun q _ h => hFc q h) hFc (fun u ra t H locs ht1 hvm hw hB hz1 hk1 hS => ?_)
  obtain ⟨q_1, hr9, hP1, hD1⟩ := hB
  rw [ht1] at hP1
  obtain ⟨hP, hD⟩ := va_join (wr := []) (w1 := [(h0, .inr (5, [.int 1, .ref q_1, .int 0])), (q_1, .inl (g 8, 10, .inr (.inr (.inr (.inr (fun _ => none))))))]) hP hD [0] [] rfl rfl (by decide) (by decide) hk1 hFc hP1 hD1
  subst hr9
  have hP : va_P D vwCl [(h0, .inr (5, [.int 1, .ref q_1, .int 0])), (q_1, .inl (g 8, 10, .inr (.inr (.inr (.inr (fun _ => none))))))] H := hP
  have hD : va_D (va_A [(h0, .inr (5, [.int 1, .ref (g 100), .int 0]))] s.heap.size) [(h0, .inr (5, [.int 1, .ref q_1, .int 0])), (q_1, .inl (g 8, 10, .inr (.inr (.inr (.inr (fun _ => none))))))] := hD
  have hP9 := hP.sub (ws' := [(h0, .inr (5, [.int 1, .ref q_1, .int 0])), (q_1, .inl (g 8, 10, .inr (.inr (.inr (.inr (fun _ => none))))))]) [0, 1] rfl
  have hD9 := hD.sub (ws' := [(h0, .inr (5, [.int 1, .ref q_1, .int 0])), (q_1, .inl (g 8, 10, .inr (.inr (.inr (.inr (fun _ => none))))))]) [0, 1] (by decide) rfl
  refine W.widen (k := 1) (n := 10) (Nat.le_of_ble_eq_true rfl) (Nat.le_of_ble_eq_true rfl) ?_
  exact W.aret (v := .ref q_1) hx hb hr (Or.inr ⟨_, rfl⟩) (Or.inr ⟨_, rfl⟩) (fun t ht9 hW9 => ⟨⟨(), _, rfl, trivial, ⟨q_1, rfl, (by rw [ht9]; exact hP9), hD9⟩⟩, hS.F ht9⟩) hS.2.2 dJx4a65c_grow_d5877_10 hlocks
set_option maxHeartbeats 4000000 in
set_option maxRecDepth 100000 in
theorem k_Jx4a65c_add_72be8 (l : Launch) (D : va_G) (g : Nat → ClassId) (z0 sz : Nat) (a : Nat → Nat) (h0 : Nat) : Met l yJx4a65c_add_72be8 (.code yJx4a65c_add_72be8 cJx4a65c_add_72be8 4 none :: TG) (rmk 3 1 10 57) (va_Pc [.ref h0, .ref (g 1128), .ref (g 100), .int 0] (PP D g z0 sz [(h0, .inr (5, [.int 1, .ref (g 100), .int 0]))])) (va_Qv (fun (u : Unit) => True) (fun (u : Unit) (t : State) => ∃ (q_2 : Nat), va_P D vwCl [(h0, .inr (5, [.int 1, .ref q_2, .int 1])), (q_2, .inl (g 8, 10, .inr (.inr (.inr (.inr (va_up (fun _ => none) (0 : Int32).toNatClampNeg (some (g 1128))))))))] t.heap ∧ va_D (va_A [(h0, .inr (5, [.int 1, .ref (g 100), .int 0]))] sz) [(h0, .inr (5, [.int 1, .ref q_2, .int 1])), (q_2, .inl (g 8, 10, .inr (.inr (.inr (.inr (va_up (fun _ => none) (0 : Int32).toNatClampNeg (some (g 1128))))))))]) (va_A [(h0, .inr (5, [.int 1, .ref (g 100), .int 0]))] sz)) 1 10 (va_A [(h0, .inr (5, [.int 1, .ref (g 100), .int 0]))] sz) := by
  refine met0 (cc := cJx4a65c_add_72be8) (n := 4) (by decide) (Nat.le_of_ble_eq_true rfl) ?_
  intro p e s m args below meth c hx hb hr hml hown ht hlocks hnm hP0 hD0 hK hZ hsz hz ls hl
  subst hsz
  have hA : ∀ q : Nat, s.heap.size ≤ q → va_A [(h0, .inr (5, [.int 1, .ref (g 100), .int 0]))] s.heap.size q := Anw
  have hAz : ∀ q, va_A [(h0, .inr (5, [.int 1, .ref (g 100), .int 0]))] s.heap.size q → z0 ≤ q := Awz hz hD0
  have hS : va_S (va_A [(h0, .inr (5, [.int 1, .ref (g 100), .int 0]))] s.heap.size) s.heap s.heap [] := va_S.rf
  have hD : va_D (va_A [(h0, .inr (5, [.int 1, .ref (g 100), .int 0]))] s.heap.size) [(h0, .inr (5, [.int 1, .ref (g 100), .int 0]))] := hD0.self
  have hP : va_P D vwCl [(h0, .inr (5, [.int 1, .ref (g 100), .int 0]))] s.heap := hP0
  have hl : lv_has ls 4 [(0, .ref h0), (1, .ref (g 1128)), (2, .ref (g 100)), (3, .int 0)] := hl
  refine lv_iload_n hx hb dJx4a65c_add_72be8_0 rfl (lv_at hl 3 rfl) ?_
  refine lv_aload_n hx hb dJx4a65c_add_72be8_1 rfl (lv_at hl 2 rfl) ?_
  refine va_tlen (v := 0) hx hb (hZ.m hAz).2.1 hS rfl dJx4a65c_add_72be8_2 ?_
  refine lv_icmp_ne (tgt := 11) hx hb dJx4a65c_add_72be8_3 (by decide) (fun c_1 => ?_) (fun c_1 => ?_)
  · exact absurd c_1 (by decide)
  · refine lv_aload_n hx hb dJx4a65c_add_72be8_6 rfl (lv_at hl 0 rfl) ?_
    have hPc : va_P D vwCl [(h0, .inr (5, [.int 1, .ref (g 100), .int 0]))] _ := hP.sub (ws' := [(h0, .inr (5, [.int 1, .ref (g 100), .int 0]))]) [0] rfl
    have hDc : va_D (fun q => z0 ≤ q) [(h0, .inr (5, [.int 1, .ref (g 100), .int 0]))] := (hD.to hAz).pick (ws' := [(h0, .inr (5, [.int 1, .ref (g 100), .int 0]))]) [0] (by decide) rfl
    have hFc := va_free (wc := [(h0, .inr (5, [.int 1, .ref (g 100), .int 0]))]) hD hS hA [0] rfl
    refine va_callr (va_runV (As := []) (rest := []) ⟨hx, hb, hml, hown, ht⟩ (k_Jx4a65c_grow_d5877 l D g z0 _ a h0) (cwV 0 ht (gV w_463 w_465 w_466 w_323 w_464) rfl rfl rfl (by decide +kernel) (le2 rfl rfl)) ⟨PP.blind, va_recv hK.1 hP (ci := 5) (q0 := 0) rfl rfl, PP.mk' hK hZ hz hAz hS hPc hDc⟩ rfl rfl hl.1 rfl (lv_room (Nat.le_of_ble_eq_true rfl)) dJx4a65c_add_72be8_7 (le2 rfl rfl)) hS (fun q _ h => hFc q h) hFc (fun u ra t H locs ht1 hvm hw hB hz1 hk1 hS => ?_)
    obtain ⟨q_2, hr9, hP1, hD1⟩ := hB
    rw [ht1] at hP1
    obtain ⟨hP, hD⟩ := va_join (wr := []) (w1 := [(h0, .inr (5, [.int 1, .ref q_2, .int 0])), (q_2, .inl (g 8, 10, .inr (.inr (.inr (.inr (fun _ => none))))))]) hP hD [0] [] rfl rfl (by decide) (by decide) hk1 hFc hP1 hD1
    subst hr9
    have hP : va_P D vwCl [(h0, .inr (5, [.int 1, .ref q_2, .int 0])), (q_2, .inl (g 8, 10, .inr (.inr (.inr (.inr (fun _ => none))))))] H := hP
    have hD : va_D (va_A [(h0, .inr (5, [.int 1, .ref (g 100), .int 0]))] s.heap.size) [(h0, .inr (5, [.int 1, .ref q_2, .int 0])), (q_2, .inl (g 8, 10, .inr (.inr (.inr (.inr (fun _ => none))))))] := hD
    refine lv_astore_n (lv' := [(2, .ref q_2), (0, .ref h0), (1, .ref (g 1128)), (3, .int 0)]) hx hb dJx4a65c_add_72be8_10 rfl hl (by decide) rfl (fun ls hl => ?_)
    refine lv_aload_n hx hb dJx4a65c_add_72be8_11 rfl (lv_at hl 0 rfl) ?_
    refine lv_iload_n hx hb dJx4a65c_add_72be8_12 rfl (lv_at hl 3 rfl) ?_
    refine lv_aload_n hx hb dJx4a65c_add_72be8_13 rfl (lv_at hl 2 rfl) ?_
    refine vb_astq (C := "java/lang/Integer") hx hb hK.1 hP hD hS 1 8 rfl rfl (va_Orecv ((hZ.m hAz).2.2.2.2.2.2.2.1.1 128 (by decide)) hS) (vb_asgC (hK.2.2.1 _ w_467)) (by unfold vp_in; decide) dJx4a65c_add_72be8_14 (fun H locs hP hD hS => ?_)
    have hP : va_P D vwCl [(h0, .inr (5, [.int 1, .ref q_2, .int 0])), (q_2, .inl (g 8, 10, .inr (.inr (.inr (.inr (va_up (fun _ => none) (0 : Int32).toNatClampNeg (some (g 1128))))))))] H := hP
    have hD : va_D (va_A [(h0, .inr (5, [.int 1, .ref (g 100), .int 0]))] s.heap.size) [(h0, .inr (5, [.int 1, .ref q_2, .int 0])), (q_2, .inl (g 8, 10, .inr (.inr (.inr (.inr (va_up (fun _ => none) (0 : Int32).toNatClampNeg (some (g 1128))))))))] := hD
    refine lv_aload_n hx hb dJx4a65c_add_72be8_15 rfl (lv_at hl 1 rfl) ?_
    refine lv_iload_n hx hb dJx4a65c_add_72be8_16 rfl (lv_at hl 3 rfl) ?_
    refine lv_iconst (v := 1) hx hb dJx4a65c_add_72be8_17 (by decide) ?_
    refine lv_iadd hx hb dJx4a65c_add_72be8_18 ?_
    refine r_topi (v := 1) (by decide) ?_
    refine va_put (D := D) (ci := 5) (v := .int 1) (ty := .int) (C := RJx4a65c) (T := TJx4a65c) (N := 3) hx hb ht in_Jx4a65c tyJx4a65c tyJx4a65c_ok nmJx4a65c hown hK.1 hP hD hS 0 rfl rfl 2 (by decide) (ht _ w_355) (fun _ h9 => h9) rfl (by decide +kernel) rfl rfl (Nat.le_of_ble_eq_true rfl) dJx4a65c_add_72be8_19 (fun H locs hP hD hS => ?_)
    have hP : va_P D vwCl [(h0, .inr (5, [.int 1, .ref q_2, .int 1])), (q_2, .inl (g 8, 10, .inr (.inr (.inr (.inr (va_up (fun _ => none) (0 : Int32).toNatClampNeg (some (g 1128))))))))] H := hP
    have hD : va_D (va_A [(h0, .inr (5, [.int 1, .ref (g 100), .int 0]))] s.heap.size) [(h0, .inr (5, [.int 1, .ref q_2, .int 1])), (q_2, .inl (g 8, 10, .inr (.inr (.inr (.inr (va_up (fun _ => none) (0 : Int32).toNatClampNeg (some (g 1128))))))))] := hD
    have hP9 := hP.sub (ws' := [(h0, .inr (5, [.int 1, .ref q_2, .int 1])), (q_2, .inl (g 8, 10, .inr (.inr (.inr (.inr (va_up (fun _ => none) (0 : Int32).toNatClampNeg (some (g 1128))))))))]) [0, 1] rfl
    have hD9 := hD.sub (ws' := [(h0, .inr (5, [.int 1, .ref q_2, .int 1])), (q_2, .inl (g 8, 10, .inr (.inr (.inr (.inr (va_up (fun _ => none) (0 : Int32).toNatClampNeg (some (g 1128))))))))]) [0, 1] (by decide) rfl
    refine W.widen (k := 1) (n := 10) (Nat.le_of_ble_eq_true rfl) (Nat.le_of_ble_eq_true rfl) ?_
    exact W.vret hx hb hr (fun t ht9 hW9 => ⟨⟨(), rfl, trivial, ⟨q_2, (by rw [ht9]; exact hP9), hD9⟩⟩, hS.F ht9⟩) hS.2.2 dJx4a65c_add_72be8_22 hlocks
set_option maxHeartbeats 4000000 in
set_option maxRecDepth 100000 in
theorem k_Jx4a65c_add_9ea2d (l : Launch) (D : va_G) (g : Nat → ClassId) (z0 sz : Nat) (a : Nat → Nat) (h0 : Nat) : Met l yJx4a65c_add_9ea2d (.code yJx4a65c_add_9ea2d cJx4a65c_add_9ea2d 2 (some .boolean) :: TG) (rmk 4 1 10 80) (va_Pc [.ref h0, .ref (g 1128)] (PP D g z0 sz [(h0, .inr (5, [.int 0, .ref (g 100), .int 0]))])) (va_Qi (fun (r : Int32) (u : Unit) => (r = 1) ∧ True) (fun (u : Unit) (t : State) => ∃ (q_1 : Nat), va_P D vwCl [(h0, .inr (5, [.int 1, .ref q_1, .int 1])), (q_1, .inl (g 8, 10, .inr (.inr (.inr (.inr (va_up (fun _ => none) (0 : Int32).toNatClampNeg (some (g 1128))))))))] t.heap ∧ va_D (va_A [(h0, .inr (5, [.int 0, .ref (g 100), .int 0]))] sz) [(h0, .inr (5, [.int 1, .ref q_1, .int 1])), (q_1, .inl (g 8, 10, .inr (.inr (.inr (.inr (va_up (fun _ => none) (0 : Int32).toNatClampNeg (some (g 1128))))))))]) (va_A [(h0, .inr (5, [.int 0, .ref (g 100), .int 0]))] sz)) 1 10 (va_A [(h0, .inr (5, [.int 0, .ref (g 100), .int 0]))] sz) := by
  refine met0 (cc := cJx4a65c_add_9ea2d) (n := 2) (by decide) (Nat.le_of_ble_eq_true rfl) ?_
  intro p e s m args below meth c hx hb hr hml hown ht hlocks hnm hP0 hD0 hK hZ hsz hz ls hl
  subst hsz
  have hA : ∀ q : Nat, s.heap.size ≤ q → va_A [(h0, .inr (5, [.int 0, .ref (g 100), .int 0]))] s.heap.size q := Anw
  have hAz : ∀ q, va_A [(h0, .inr (5, [.int 0, .ref (g 100), .int 0]))] s.heap.size q → z0 ≤ q := Awz hz hD0
  have hS : va_S (va_A [(h0, .inr (5, [.int 0, .ref (g 100), .int 0]))] s.heap.size) s.heap s.heap [] := va_S.rf
  have hD : va_D (va_A [(h0, .inr (5, [.int 0, .ref (g 100), .int 0]))] s.heap.size) [(h0, .inr (5, [.int 0, .ref (g 100), .int 0]))] := hD0.self
  have hP : va_P D vwCl [(h0, .inr (5, [.int 0, .ref (g 100), .int 0]))] s.heap := hP0
  have hl : lv_has ls 2 [(0, .ref h0), (1, .ref (g 1128))] := hl
  refine lv_aload_n hx hb dJx4a65c_add_9ea2d_0 rfl (lv_at hl 0 rfl) ?_
  refine lv_dup hx hb dJx4a65c_add_9ea2d_1 rfl ?_
  refine va_get (D := D) (ci := 5) (v := .int 0) (C := RJx4a65c) (T := TJx4a65c) (N := 3) hx hb ht in_Jx4a65c hown hK.1 hP 0 rfl rfl 0 (by decide) (ht _ w_456) (u_same (ht _ w_314)) rfl dJx4a65c_add_9ea2d_2 ?_
  refine lv_iconst (v := 1) hx hb dJx4a65c_add_9ea2d_5 (by decide) ?_
  refine lv_iadd hx hb dJx4a65c_add_9ea2d_6 ?_
  refine r_topi (v := 1) (by decide) ?_
  refine va_put (D := D) (ci := 5) (v := .int 1) (ty := .int) (C := RJx4a65c) (T := TJx4a65c) (N := 3) hx hb ht in_Jx4a65c tyJx4a65c tyJx4a65c_ok nmJx4a65c hown hK.1 hP hD hS 0 rfl rfl 0 (by decide) (ht _ w_456) (u_same (ht _ w_314)) rfl (by decide +kernel) rfl rfl (Nat.le_of_ble_eq_true rfl) dJx4a65c_add_9ea2d_7 (fun H locs hP hD hS => ?_)
  have hP : va_P D vwCl [(h0, .inr (5, [.int 1, .ref (g 100), .int 0]))] H := hP
  have hD : va_D (va_A [(h0, .inr (5, [.int 0, .ref (g 100), .int 0]))] s.heap.size) [(h0, .inr (5, [.int 1, .ref (g 100), .int 0]))] := hD
  refine lv_aload_n hx hb dJx4a65c_add_9ea2d_10 rfl (lv_at hl 0 rfl) ?_
  refine lv_aload_n hx hb dJx4a65c_add_9ea2d_11 rfl (lv_at hl 1 rfl) ?_
  refine lv_aload_n hx hb dJx4a65c_add_9ea2d_12 rfl (lv_at hl 0 rfl) ?_
  refine va_get (D := D) (ci := 5) (v := .ref (g 100)) (C := RJx4a65c) (T := TJx4a65c) (N := 3) hx hb ht in_Jx4a65c hown hK.1 hP 0 rfl rfl 1 (by decide) (ht _ w_348) (fun _ h9 => h9) rfl dJx4a65c_add_9ea2d_13 ?_
  refine lv_aload_n hx hb dJx4a65c_add_9ea2d_16 rfl (lv_at hl 0 rfl) ?_
  refine va_get (D := D) (ci := 5) (v := .int 0) (C := RJx4a65c) (T := TJx4a65c) (N := 3) hx hb ht in_Jx4a65c hown hK.1 hP 0 rfl rfl 2 (by decide) (ht _ w_355) (fun _ h9 => h9) rfl dJx4a65c_add_9ea2d_17 ?_
  have hPc : va_P D vwCl [(h0, .inr (5, [.int 1, .ref (g 100), .int 0]))] _ := hP.sub (ws' := [(h0, .inr (5, [.int 1, .ref (g 100), .int 0]))]) [0] rfl
  have hDc : va_D (fun q => z0 ≤ q) [(h0, .inr (5, [.int 1, .ref (g 100), .int 0]))] := (hD.to hAz).pick (ws' := [(h0, .inr (5, [.int 1, .ref (g 100), .int 0]))]) [0] (by decide) rfl
  have hFc := va_free (wc := [(h0, .inr (5, [.int 1, .ref (g 100), .int 0]))]) hD hS hA [0] rfl
  refine va_callv (va_runV (As := [.ref (g 1128), .ref (g 100), .int 0]) (rest := []) ⟨hx, hb, hml, hown, ht⟩ (k_Jx4a65c_add_72be8 l D g z0 _ a h0) (cwV 3 ht (gV w_468 w_470 w_471 w_323 w_469) rfl rfl rfl (by decide +kernel) (le2 rfl rfl)) ⟨PP.blind, va_recv hK.1 hP (ci := 5) (q0 := 0) rfl rfl, PP.mk' hK hZ hz hAz hS hPc hDc⟩ rfl rfl hl.1 rfl (lv_room (Nat.le_of_ble_eq_true rfl)) dJx4a65c_add_9ea2d_20 (le2 rfl rfl)) hS (fun q _ h => hFc q h) hFc (fun u t H locs ht1 hvm hw hB hz1 hk1 hS => ?_)
  obtain ⟨q_1, hP1, hD1⟩ := hB
  rw [ht1] at hP1
  obtain ⟨hP, hD⟩ := va_join (wr := []) (w1 := [(h0, .inr (5, [.int 1, .ref q_1, .int 1])), (q_1, .inl (g 8, 10, .inr (.inr (.inr (.inr (va_up (fun _ => none) (0 : Int32).toNatClampNeg (some (g 1128))))))))]) hP hD [0] [] rfl rfl (by decide) (by decide) hk1 hFc hP1 hD1
  have hP : va_P D vwCl [(h0, .inr (5, [.int 1, .ref q_1, .int 1])), (q_1, .inl (g 8, 10, .inr (.inr (.inr (.inr (va_up (fun _ => none) (0 : Int32).toNatClampNeg (some (g 1128))))))))] H := hP
  have hD : va_D (va_A [(h0, .inr (5, [.int 0, .ref (g 100), .int 0]))] s.heap.size) [(h0, .inr (5, [.int 1, .ref q_1, .int 1])), (q_1, .inl (g 8, 10, .inr (.inr (.inr (.inr (va_up (fun _ => none) (0 : Int32).toNatClampNeg (some (g 1128))))))))] := hD
  refine lv_iconst (v := 1) hx hb dJx4a65c_add_9ea2d_23 (by decide) ?_
  have hP9 := hP.sub (ws' := [(h0, .inr (5, [.int 1, .ref q_1, .int 1])), (q_1, .inl (g 8, 10, .inr (.inr (.inr (.inr (va_up (fun _ => none) (0 : Int32).toNatClampNeg (some (g 1128))))))))]) [0, 1] rfl
  have hD9 := hD.sub (ws' := [(h0, .inr (5, [.int 1, .ref q_1, .int 1])), (q_1, .inl (g 8, 10, .inr (.inr (.inr (.inr (va_up (fun _ => none) (0 : Int32).toNatClampNeg (some (g 1128))))))))]) [0, 1] (by decide) rfl
  refine W.widen (k := 1) (n := 10) (Nat.le_of_ble_eq_true rfl) (Nat.le_of_ble_eq_true rfl) ?_
  exact W.zret (v := 1) hx hb hr rfl (fun t ht9 hW9 => ⟨⟨1, (), rfl, ⟨rfl, trivial⟩, ⟨q_1, (by rw [ht9]; exact hP9), hD9⟩⟩, hS.F ht9⟩) hS.2.2 dJx4a65c_add_9ea2d_24 hlocks
set_option maxHeartbeats 4000000 in
set_option maxRecDepth 100000 in
theorem k_Jx4a65c_add_72be8_v1 (l : Launch) (D : va_G) (g : Nat → ClassId) (z0 sz : Nat) (a : Nat → Nat) (h0 : Nat) (h1 : Nat) (h2 : Nat) (fh2 : Nat → Int32) : Met l yJx4a65c_add_72be8 (.code yJx4a65c_add_72be8 cJx4a65c_add_72be8 4 none :: TG) (rmk 3 1 10 57) (va_Pc [.ref h0, .ref h1, .ref (g 100), .int 0] (PP D g z0 sz [(h0, .inr (5, [.int 1, .ref (g 100), .int 0])), (h1, .inr (19, [.int 102, .ref h2, .int 0, .int (-1), .int 0, .int (-1), .int 0, .int 0]))])) (va_Qv (fun (u : Unit) => True) (fun (u : Unit) (t : State) => ∃ (q_2 : Nat), va_P D vwCl [(h1, .inr (19, [.int 102, .ref h2, .int 0, .int (-1), .int 0, .int (-1), .int 0, .int 0])), (h0, .inr (5, [.int 1, .ref q_2, .int 1])), (q_2, .inl (g 8, 10, .inr (.inr (.inr (.inr (va_up (fun _ => none) (0 : Int32).toNatClampNeg (some h1)))))))] t.heap ∧ va_D (va_A [(h0, .inr (5, [.int 1, .ref (g 100), .int 0])), (h1, .inr (19, [.int 102, .ref h2, .int 0, .int (-1), .int 0, .int (-1), .int 0, .int 0]))] sz) [(h1, .inr (19, [.int 102, .ref h2, .int 0, .int (-1), .int 0, .int (-1), .int 0, .int 0])), (h0, .inr (5, [.int 1, .ref q_2, .int 1])), (q_2, .inl (g 8, 10, .inr (.inr (.inr (.inr (va_up (fun _ => none) (0 : Int32).toNatClampNeg (some h1)))))))]) (va_A [(h0, .inr (5, [.int 1, .ref (g 100), .int 0])), (h1, .inr (19, [.int 102, .ref h2, .int 0, .int (-1), .int 0, .int (-1), .int 0, .int 0]))] sz)) 1 10 (va_A [(h0, .inr (5, [.int 1, .ref (g 100), .int 0])), (h1, .inr (19, [.int 102, .ref h2, .int 0, .int (-1), .int 0, .int (-1), .int 0, .int 0]))] sz) := by
  refine met0 (cc := cJx4a65c_add_72be8) (n := 4) (by decide) (Nat.le_of_ble_eq_true rfl) ?_
  intro p e s m args below meth c hx hb hr hml hown ht hlocks hnm hP0 hD0 hK hZ hsz hz ls hl
  subst hsz
  have hA : ∀ q : Nat, s.heap.size ≤ q → va_A [(h0, .inr (5, [.int 1, .ref (g 100), .int 0])), (h1, .inr (19, [.int 102, .ref h2, .int 0, .int (-1), .int 0, .int (-1), .int 0, .int 0]))] s.heap.size q := Anw
  have hAz : ∀ q, va_A [(h0, .inr (5, [.int 1, .ref (g 100), .int 0])), (h1, .inr (19, [.int 102, .ref h2, .int 0, .int (-1), .int 0, .int (-1), .int 0, .int 0]))] s.heap.size q → z0 ≤ q := Awz hz hD0
  have hS : va_S (va_A [(h0, .inr (5, [.int 1, .ref (g 100), .int 0])), (h1, .inr (19, [.int 102, .ref h2, .int 0, .int (-1), .int 0, .int (-1), .int 0, .int 0]))] s.heap.size) s.heap s.heap [] := va_S.rf
  have hD : va_D (va_A [(h0, .inr (5, [.int 1, .ref (g 100), .int 0])), (h1, .inr (19, [.int 102, .ref h2, .int 0, .int (-1), .int 0, .int (-1), .int 0, .int 0]))] s.heap.size) [(h0, .inr (5, [.int 1, .ref (g 100), .int 0])), (h1, .inr (19, [.int 102, .ref h2, .int 0, .int (-1), .int 0, .int (-1), .int 0, .int 0]))] := hD0.self
  have hP : va_P D vwCl [(h0, .inr (5, [.int 1, .ref (g 100), .int 0])), (h1, .inr (19, [.int 102, .ref h2, .int 0, .int (-1), .int 0, .int (-1), .int 0, .int 0]))] s.heap := hP0
  have hl : lv_has ls 4 [(0, .ref h0), (1, .ref h1), (2, .ref (g 100)), (3, .int 0)] := hl
  refine lv_iload_n hx hb dJx4a65c_add_72be8_0 rfl (lv_at hl 3 rfl) ?_
  refine lv_aload_n hx hb dJx4a65c_add_72be8_1 rfl (lv_at hl 2 rfl) ?_
  refine va_tlen (v := 0) hx hb (hZ.m hAz).2.1 hS rfl dJx4a65c_add_72be8_2 ?_
  refine lv_icmp_ne (tgt := 11) hx hb dJx4a65c_add_72be8_3 (by decide) (fun c_1 => ?_) (fun c_1 => ?_)
  · exact absurd c_1 (by decide)
  · refine lv_aload_n hx hb dJx4a65c_add_72be8_6 rfl (lv_at hl 0 rfl) ?_
    have hPc : va_P D vwCl [(h0, .inr (5, [.int 1, .ref (g 100), .int 0]))] _ := hP.sub (ws' := [(h0, .inr (5, [.int 1, .ref (g 100), .int 0]))]) [0] rfl
    have hDc : va_D (fun q => z0 ≤ q) [(h0, .inr (5, [.int 1, .ref (g 100), .int 0]))] := (hD.to hAz).pick (ws' := [(h0, .inr (5, [.int 1, .ref (g 100), .int 0]))]) [0] (by decide) rfl
    have hFc := va_free (wc := [(h0, .inr (5, [.int 1, .ref (g 100), .int 0]))]) hD hS hA [0] rfl
    refine va_callr (va_runV (As := []) (rest := []) ⟨hx, hb, hml, hown, ht⟩ (k_Jx4a65c_grow_d5877 l D g z0 _ a h0) (cwV 0 ht (gV w_463 w_465 w_466 w_323 w_464) rfl rfl rfl (by decide +kernel) (le2 rfl rfl)) ⟨PP.blind, va_recv hK.1 hP (ci := 5) (q0 := 0) rfl rfl, PP.mk' hK hZ hz hAz hS hPc hDc⟩ rfl rfl hl.1 rfl (lv_room (Nat.le_of_ble_eq_true rfl)) dJx4a65c_add_72be8_7 (le2 rfl rfl)) hS (fun q _ h => hFc q h) hFc (fun u ra t H locs ht1 hvm hw hB hz1 hk1 hS => ?_)
    obtain ⟨q_2, hr9, hP1, hD1⟩ := hB
    rw [ht1] at hP1
    obtain ⟨hP, hD⟩ := va_join (wr := [(h1, .inr (19, [.int 102, .ref h2, .int 0, .int (-1), .int 0, .int (-1), .int 0, .int 0]))]) (w1 := [(h0, .inr (5, [.int 1, .ref q_2, .int 0])), (q_2, .inl (g 8, 10, .inr (.inr (.inr (.inr (fun _ => none))))))]) hP hD [0] [1] rfl rfl (by decide) (by decide) hk1 hFc hP1 hD1
    subst hr9
    have hP : va_P D vwCl [(h1, .inr (19, [.int 102, .ref h2, .int 0, .int (-1), .int 0, .int (-1), .int 0, .int 0])), (h0, .inr (5, [.int 1, .ref q_2, .int 0])), (q_2, .inl (g 8, 10, .inr (.inr (.inr (.inr (fun _ => none))))))] H := hP
    have hD : va_D (va_A [(h0, .inr (5, [.int 1, .ref (g 100), .int 0])), (h1, .inr (19, [.int 102, .ref h2, .int 0, .int (-1), .int 0, .int (-1), .int 0, .int 0]))] s.heap.size) [(h1, .inr (19, [.int 102, .ref h2, .int 0, .int (-1), .int 0, .int (-1), .int 0, .int 0])), (h0, .inr (5, [.int 1, .ref q_2, .int 0])), (q_2, .inl (g 8, 10, .inr (.inr (.inr (.inr (fun _ => none))))))] := hD
    refine lv_astore_n (lv' := [(2, .ref q_2), (0, .ref h0), (1, .ref h1), (3, .int 0)]) hx hb dJx4a65c_add_72be8_10 rfl hl (by decide) rfl (fun ls hl => ?_)
    refine lv_aload_n hx hb dJx4a65c_add_72be8_11 rfl (lv_at hl 0 rfl) ?_
    refine lv_iload_n hx hb dJx4a65c_add_72be8_12 rfl (lv_at hl 3 rfl) ?_
    refine lv_aload_n hx hb dJx4a65c_add_72be8_13 rfl (lv_at hl 2 rfl) ?_
    refine vb_astq (C := "StuckatBenchModel$Line") hx hb hK.1 hP hD hS 2 8 rfl rfl (va_recv hK.1 hP (ci := 19) (q0 := 0) rfl rfl) (vb_asgC (hK.2.2.1 _ w_476)) (by unfold vp_in; decide) dJx4a65c_add_72be8_14 (fun H locs hP hD hS => ?_)
    have hP : va_P D vwCl [(h1, .inr (19, [.int 102, .ref h2, .int 0, .int (-1), .int 0, .int (-1), .int 0, .int 0])), (h0, .inr (5, [.int 1, .ref q_2, .int 0])), (q_2, .inl (g 8, 10, .inr (.inr (.inr (.inr (va_up (fun _ => none) (0 : Int32).toNatClampNeg (some h1)))))))] H := hP
    have hD : va_D (va_A [(h0, .inr (5, [.int 1, .ref (g 100), .int 0])), (h1, .inr (19, [.int 102, .ref h2, .int 0, .int (-1), .int 0, .int (-1), .int 0, .int 0]))] s.heap.size) [(h1, .inr (19, [.int 102, .ref h2, .int 0, .int (-1), .int 0, .int (-1), .int 0, .int 0])), (h0, .inr (5, [.int 1, .ref q_2, .int 0])), (q_2, .inl (g 8, 10, .inr (.inr (.inr (.inr (va_up (fun _ => none) (0 : Int32).toNatClampNeg (some h1)))))))] := hD
    refine lv_aload_n hx hb dJx4a65c_add_72be8_15 rfl (lv_at hl 1 rfl) ?_
    refine lv_iload_n hx hb dJx4a65c_add_72be8_16 rfl (lv_at hl 3 rfl) ?_
    refine lv_iconst (v := 1) hx hb dJx4a65c_add_72be8_17 (by decide) ?_
    refine lv_iadd hx hb dJx4a65c_add_72be8_18 ?_
    refine r_topi (v := 1) (by decide) ?_
    refine va_put (D := D) (ci := 5) (v := .int 1) (ty := .int) (C := RJx4a65c) (T := TJx4a65c) (N := 3) hx hb ht in_Jx4a65c tyJx4a65c tyJx4a65c_ok nmJx4a65c hown hK.1 hP hD hS 1 rfl rfl 2 (by decide) (ht _ w_355) (fun _ h9 => h9) rfl (by decide +kernel) rfl rfl (Nat.le_of_ble_eq_true rfl) dJx4a65c_add_72be8_19 (fun H locs hP hD hS => ?_)
    have hP : va_P D vwCl [(h1, .inr (19, [.int 102, .ref h2, .int 0, .int (-1), .int 0, .int (-1), .int 0, .int 0])), (h0, .inr (5, [.int 1, .ref q_2, .int 1])), (q_2, .inl (g 8, 10, .inr (.inr (.inr (.inr (va_up (fun _ => none) (0 : Int32).toNatClampNeg (some h1)))))))] H := hP
    have hD : va_D (va_A [(h0, .inr (5, [.int 1, .ref (g 100), .int 0])), (h1, .inr (19, [.int 102, .ref h2, .int 0, .int (-1), .int 0, .int (-1), .int 0, .int 0]))] s.heap.size) [(h1, .inr (19, [.int 102, .ref h2, .int 0, .int (-1), .int 0, .int (-1), .int 0, .int 0])), (h0, .inr (5, [.int 1, .ref q_2, .int 1])), (q_2, .inl (g 8, 10, .inr (.inr (.inr (.inr (va_up (fun _ => none) (0 : Int32).toNatClampNeg (some h1)))))))] := hD
    have hP9 := hP.sub (ws' := [(h1, .inr (19, [.int 102, .ref h2, .int 0, .int (-1), .int 0, .int (-1), .int 0, .int 0])), (h0, .inr (5, [.int 1, .ref q_2, .int 1])), (q_2, .inl (g 8, 10, .inr (.inr (.inr (.inr (va_up (fun _ => none) (0 : Int32).toNatClampNeg (some h1)))))))]) [0, 1, 2] rfl
    have hD9 := hD.sub (ws' := [(h1, .inr (19, [.int 102, .ref h2, .int 0, .int (-1), .int 0, .int (-1), .int 0, .int 0])), (h0, .inr (5, [.int 1, .ref q_2, .int 1])), (q_2, .inl (g 8, 10, .inr (.inr (.inr (.inr (va_up (fun _ => none) (0 : Int32).toNatClampNeg (some h1)))))))]) [0, 1, 2] (by decide) rfl
    refine W.widen (k := 1) (n := 10) (Nat.le_of_ble_eq_true rfl) (Nat.le_of_ble_eq_true rfl) ?_
    exact W.vret hx hb hr (fun t ht9 hW9 => ⟨⟨(), rfl, trivial, ⟨q_2, (by rw [ht9]; exact hP9), hD9⟩⟩, hS.F ht9⟩) hS.2.2 dJx4a65c_add_72be8_22 hlocks
set_option maxHeartbeats 4000000 in
set_option maxRecDepth 100000 in
theorem k_Jx4a65c_add_9ea2d_v1 (l : Launch) (D : va_G) (g : Nat → ClassId) (z0 sz : Nat) (a : Nat → Nat) (h0 : Nat) (h1 : Nat) (h2 : Nat) (fh2 : Nat → Int32) : Met l yJx4a65c_add_9ea2d (.code yJx4a65c_add_9ea2d cJx4a65c_add_9ea2d 2 (some .boolean) :: TG) (rmk 4 1 10 80) (va_Pc [.ref h0, .ref h1] (PP D g z0 sz [(h0, .inr (5, [.int 0, .ref (g 100), .int 0])), (h1, .inr (19, [.int 102, .ref h2, .int 0, .int (-1), .int 0, .int (-1), .int 0, .int 0]))])) (va_Qi (fun (r : Int32) (u : Unit) => (r = 1) ∧ True) (fun (u : Unit) (t : State) => ∃ (q_1 : Nat), va_P D vwCl [(h1, .inr (19, [.int 102, .ref h2, .int 0, .int (-1), .int 0, .int (-1), .int 0, .int 0])), (h0, .inr (5, [.int 1, .ref q_1, .int 1])), (q_1, .inl (g 8, 10, .inr (.inr (.inr (.inr (va_up (fun _ => none) (0 : Int32).toNatClampNeg (some h1)))))))] t.heap ∧ va_D (va_A [(h0, .inr (5, [.int 0, .ref (g 100), .int 0])), (h1, .inr (19, [.int 102, .ref h2, .int 0, .int (-1), .int 0, .int (-1), .int 0, .int 0]))] sz) [(h1, .inr (19, [.int 102, .ref h2, .int 0, .int (-1), .int 0, .int (-1), .int 0, .int 0])), (h0, .inr (5, [.int 1, .ref q_1, .int 1])), (q_1, .inl (g 8, 10, .inr (.inr (.inr (.inr (va_up (fun _ => none) (0 : Int32).toNatClampNeg (some h1)))))))]) (va_A [(h0, .inr (5, [.int 0, .ref (g 100), .int 0])), (h1, .inr (19, [.int 102, .ref h2, .int 0, .int (-1), .int 0, .int (-1), .int 0, .int 0]))] sz)) 1 10 (va_A [(h0, .inr (5, [.int 0, .ref (g 100), .int 0])), (h1, .inr (19, [.int 102, .ref h2, .int 0, .int (-1), .int 0, .int (-1), .int 0, .int 0]))] sz) := by
  refine met0 (cc := cJx4a65c_add_9ea2d) (n := 2) (by decide) (Nat.le_of_ble_eq_true rfl) ?_
  intro p e s m args below meth c hx hb hr hml hown ht hlocks hnm hP0 hD0 hK hZ hsz hz ls hl
  subst hsz
  have hA : ∀ q : Nat, s.heap.size ≤ q → va_A [(h0, .inr (5, [.int 0, .ref (g 100), .int 0])), (h1, .inr (19, [.int 102, .ref h2, .int 0, .int (-1), .int 0, .int (-1), .int 0, .int 0]))] s.heap.size q := Anw
  have hAz : ∀ q, va_A [(h0, .inr (5, [.int 0, .ref (g 100), .int 0])), (h1, .inr (19, [.int 102, .ref h2, .int 0, .int (-1), .int 0, .int (-1), .int 0, .int 0]))] s.heap.size q → z0 ≤ q := Awz hz hD0
  have hS : va_S (va_A [(h0, .inr (5, [.int 0, .ref (g 100), .int 0])), (h1, .inr (19, [.int 102, .ref h2, .int 0, .int (-1), .int 0, .int (-1), .int 0, .int 0]))] s.heap.size) s.heap s.heap [] := va_S.rf
  have hD : va_D (va_A [(h0, .inr (5, [.int 0, .ref (g 100), .int 0])), (h1, .inr (19, [.int 102, .ref h2, .int 0, .int (-1), .int 0, .int (-1), .int 0, .int 0]))] s.heap.size) [(h0, .inr (5, [.int 0, .ref (g 100), .int 0])), (h1, .inr (19, [.int 102, .ref h2, .int 0, .int (-1), .int 0, .int (-1), .int 0, .int 0]))] := hD0.self
  have hP : va_P D vwCl [(h0, .inr (5, [.int 0, .ref (g 100), .int 0])), (h1, .inr (19, [.int 102, .ref h2, .int 0, .int (-1), .int 0, .int (-1), .int 0, .int 0]))] s.heap := hP0
  have hl : lv_has ls 2 [(0, .ref h0), (1, .ref h1)] := hl
  refine lv_aload_n hx hb dJx4a65c_add_9ea2d_0 rfl (lv_at hl 0 rfl) ?_
  refine lv_dup hx hb dJx4a65c_add_9ea2d_1 rfl ?_
  refine va_get (D := D) (ci := 5) (v := .int 0) (C := RJx4a65c) (T := TJx4a65c) (N := 3) hx hb ht in_Jx4a65c hown hK.1 hP 0 rfl rfl 0 (by decide) (ht _ w_456) (u_same (ht _ w_314)) rfl dJx4a65c_add_9ea2d_2 ?_
  refine lv_iconst (v := 1) hx hb dJx4a65c_add_9ea2d_5 (by decide) ?_
  refine lv_iadd hx hb dJx4a65c_add_9ea2d_6 ?_
  refine r_topi (v := 1) (by decide) ?_
  refine va_put (D := D) (ci := 5) (v := .int 1) (ty := .int) (C := RJx4a65c) (T := TJx4a65c) (N := 3) hx hb ht in_Jx4a65c tyJx4a65c tyJx4a65c_ok nmJx4a65c hown hK.1 hP hD hS 0 rfl rfl 0 (by decide) (ht _ w_456) (u_same (ht _ w_314)) rfl (by decide +kernel) rfl rfl (Nat.le_of_ble_eq_true rfl) dJx4a65c_add_9ea2d_7 (fun H locs hP hD hS => ?_)
  have hP : va_P D vwCl [(h0, .inr (5, [.int 1, .ref (g 100), .int 0])), (h1, .inr (19, [.int 102, .ref h2, .int 0, .int (-1), .int 0, .int (-1), .int 0, .int 0]))] H := hP
  have hD : va_D (va_A [(h0, .inr (5, [.int 0, .ref (g 100), .int 0])), (h1, .inr (19, [.int 102, .ref h2, .int 0, .int (-1), .int 0, .int (-1), .int 0, .int 0]))] s.heap.size) [(h0, .inr (5, [.int 1, .ref (g 100), .int 0])), (h1, .inr (19, [.int 102, .ref h2, .int 0, .int (-1), .int 0, .int (-1), .int 0, .int 0]))] := hD
  refine lv_aload_n hx hb dJx4a65c_add_9ea2d_10 rfl (lv_at hl 0 rfl) ?_
  refine lv_aload_n hx hb dJx4a65c_add_9ea2d_11 rfl (lv_at hl 1 rfl) ?_
  refine lv_aload_n hx hb dJx4a65c_add_9ea2d_12 rfl (lv_at hl 0 rfl) ?_
  refine va_get (D := D) (ci := 5) (v := .ref (g 100)) (C := RJx4a65c) (T := TJx4a65c) (N := 3) hx hb ht in_Jx4a65c hown hK.1 hP 0 rfl rfl 1 (by decide) (ht _ w_348) (fun _ h9 => h9) rfl dJx4a65c_add_9ea2d_13 ?_
  refine lv_aload_n hx hb dJx4a65c_add_9ea2d_16 rfl (lv_at hl 0 rfl) ?_
  refine va_get (D := D) (ci := 5) (v := .int 0) (C := RJx4a65c) (T := TJx4a65c) (N := 3) hx hb ht in_Jx4a65c hown hK.1 hP 0 rfl rfl 2 (by decide) (ht _ w_355) (fun _ h9 => h9) rfl dJx4a65c_add_9ea2d_17 ?_
  have hPc : va_P D vwCl [(h0, .inr (5, [.int 1, .ref (g 100), .int 0])), (h1, .inr (19, [.int 102, .ref h2, .int 0, .int (-1), .int 0, .int (-1), .int 0, .int 0]))] _ := hP.sub (ws' := [(h0, .inr (5, [.int 1, .ref (g 100), .int 0])), (h1, .inr (19, [.int 102, .ref h2, .int 0, .int (-1), .int 0, .int (-1), .int 0, .int 0]))]) [0, 1] rfl
  have hDc : va_D (fun q => z0 ≤ q) [(h0, .inr (5, [.int 1, .ref (g 100), .int 0])), (h1, .inr (19, [.int 102, .ref h2, .int 0, .int (-1), .int 0, .int (-1), .int 0, .int 0]))] := (hD.to hAz).pick (ws' := [(h0, .inr (5, [.int 1, .ref (g 100), .int 0])), (h1, .inr (19, [.int 102, .ref h2, .int 0, .int (-1), .int 0, .int (-1), .int 0, .int 0]))]) [0, 1] (by decide) rfl
  have hFc := va_free (wc := [(h0, .inr (5, [.int 1, .ref (g 100), .int 0])), (h1, .inr (19, [.int 102, .ref h2, .int 0, .int (-1), .int 0, .int (-1), .int 0, .int 0]))]) hD hS hA [0, 1] rfl
  refine va_callv (va_runV (As := [.ref h1, .ref (g 100), .int 0]) (rest := []) ⟨hx, hb, hml, hown, ht⟩ (k_Jx4a65c_add_72be8_v1 l D g z0 _ a h0 h1 h2 fh2) (cwV 3 ht (gV w_468 w_470 w_471 w_323 w_469) rfl rfl rfl (by decide +kernel) (le2 rfl rfl)) ⟨PP.blind, va_recv hK.1 hP (ci := 5) (q0 := 0) rfl rfl, PP.mk' hK hZ hz hAz hS hPc hDc⟩ rfl rfl hl.1 rfl (lv_room (Nat.le_of_ble_eq_true rfl)) dJx4a65c_add_9ea2d_20 (le2 rfl rfl)) hS (fun q _ h => hFc q h) hFc (fun u t H locs ht1 hvm hw hB hz1 hk1 hS => ?_)
  obtain ⟨q_1, hP1, hD1⟩ := hB
  rw [ht1] at hP1
  obtain ⟨hP, hD⟩ := va_join (wr := []) (w1 := [(h1, .inr (19, [.int 102, .ref h2, .int 0, .int (-1), .int 0, .int (-1), .int 0, .int 0])), (h0, .inr (5, [.int 1, .ref q_1, .int 1])), (q_1, .inl (g 8, 10, .inr (.inr (.inr (.inr (va_up (fun _ => none) (0 : Int32).toNatClampNeg (some h1)))))))]) hP hD [0, 1] [] rfl rfl (by decide) (by decide) hk1 hFc hP1 hD1
  have hP : va_P D vwCl [(h1, .inr (19, [.int 102, .ref h2, .int 0, .int (-1), .int 0, .int (-1), .int 0, .int 0])), (h0, .inr (5, [.int 1, .ref q_1, .int 1])), (q_1, .inl (g 8, 10, .inr (.inr (.inr (.inr (va_up (fun _ => none) (0 : Int32).toNatClampNeg (some h1)))))))] H := hP
  have hD : va_D (va_A [(h0, .inr (5, [.int 0, .ref (g 100), .int 0])), (h1, .inr (19, [.int 102, .ref h2, .int 0, .int (-1), .int 0, .int (-1), .int 0, .int 0]))] s.heap.size) [(h1, .inr (19, [.int 102, .ref h2, .int 0, .int (-1), .int 0, .int (-1), .int 0, .int 0])), (h0, .inr (5, [.int 1, .ref q_1, .int 1])), (q_1, .inl (g 8, 10, .inr (.inr (.inr (.inr (va_up (fun _ => none) (0 : Int32).toNatClampNeg (some h1)))))))] := hD
  refine lv_iconst (v := 1) hx hb dJx4a65c_add_9ea2d_23 (by decide) ?_
  have hP9 := hP.sub (ws' := [(h1, .inr (19, [.int 102, .ref h2, .int 0, .int (-1), .int 0, .int (-1), .int 0, .int 0])), (h0, .inr (5, [.int 1, .ref q_1, .int 1])), (q_1, .inl (g 8, 10, .inr (.inr (.inr (.inr (va_up (fun _ => none) (0 : Int32).toNatClampNeg (some h1)))))))]) [0, 1, 2] rfl
  have hD9 := hD.sub (ws' := [(h1, .inr (19, [.int 102, .ref h2, .int 0, .int (-1), .int 0, .int (-1), .int 0, .int 0])), (h0, .inr (5, [.int 1, .ref q_1, .int 1])), (q_1, .inl (g 8, 10, .inr (.inr (.inr (.inr (va_up (fun _ => none) (0 : Int32).toNatClampNeg (some h1)))))))]) [0, 1, 2] (by decide) rfl
  refine W.widen (k := 1) (n := 10) (Nat.le_of_ble_eq_true rfl) (Nat.le_of_ble_eq_true rfl) ?_
  exact W.zret (v := 1) hx hb hr rfl (fun t ht9 hW9 => ⟨⟨1, (), rfl, ⟨rfl, trivial⟩, ⟨q_1, (by rw [ht9]; exact hP9), hD9⟩⟩, hS.F ht9⟩) hS.2.2 dJx4a65c_add_9ea2d_24 hlocks
set_option maxHeartbeats 4000000 in
set_option maxRecDepth 100000 in
theorem k_Jx4a65c_size_8abf5_v1 (l : Launch) (D : va_G) (g : Nat → ClassId) (z0 sz : Nat) (a : Nat → Nat) (h0 : Nat) (h1 : Nat) : Met l yJx4a65c_size_8abf5 (.code yJx4a65c_size_8abf5 cJx4a65c_size_8abf5 1 (some .int) :: TG) (rmk 0 0 0 0) (va_Pc [.ref h0] (PP D g z0 sz [(h0, .inr (5, [.int 1, .ref h1, .int 1]))])) (va_Qi (fun (r : Int32) (u : Unit) => (r = 1) ∧ True) (fun (_ : Unit) (_ : State) => True) (va_A [] sz)) 0 0 (va_A [] sz) := by
  refine met0 (cc := cJx4a65c_size_8abf5) (n := 1) (by decide) (Nat.le_of_ble_eq_true rfl) ?_
  intro p e s m args below meth c hx hb hr hml hown ht hlocks hnm hP0 hD0 hK hZ hsz hz ls hl
  subst hsz
  have hA : ∀ q : Nat, s.heap.size ≤ q → va_A [] s.heap.size q := Anw
  have hAz : ∀ q, va_A [] s.heap.size q → z0 ≤ q := A0z hz
  have hS : va_S (va_A [] s.heap.size) s.heap s.heap [] := va_S.rf
  have hl : lv_has ls 1 [(0, .ref h0)] := hl
  refine lv_aload_n hx hb dJx4a65c_size_8abf5_0 rfl (lv_at hl 0 rfl) ?_
  refine va_get (D := D) (ci := 5) (v := .int 1) (C := RJx4a65c) (T := TJx4a65c) (N := 3) hx hb ht in_Jx4a65c hown hK.1 (ro0 hP0 hS) 0 rfl rfl 2 (by decide) (ht _ w_355) (fun _ h9 => h9) rfl dJx4a65c_size_8abf5_1 ?_
  refine W.widen (k := 0) (n := 0) (Nat.le_of_ble_eq_true rfl) (Nat.le_of_ble_eq_true rfl) ?_
  exact W.iret (v := 1) hx hb hr (fun t ht9 hW9 => ⟨⟨1, (), rfl, ⟨rfl, trivial⟩, trivial⟩, hS.F ht9⟩) hS.2.2 dJx4a65c_size_8abf5_4 hlocks
set_option maxHeartbeats 4000000 in
set_option maxRecDepth 100000 in
theorem k_X15_addSource (l : Launch) (D : va_G) (g : Nat → ClassId) (z0 sz : Nat) (a : Nat → Nat) : Met l yX15_addSource (.code yX15_addSource cX15_addSource 3 (some .int) :: TG) (rmk 5 5 38 101) (va_Pc [.ref (a 200), .int 102] (PP D g z0 sz [((a 200), f_m a g), ((a 201), .inr (5, [.int 0, .ref (g 100), .int 0])), ((a 202), .inr (5, [.int 0, .ref (g 100), .int 0])), ((a 203), .inr (5, [.int 0, .ref (g 100), .int 0]))])) (va_Qi (fun (r : Int32) (u : Unit) => (r = 0) ∧ True) (fun (u : Unit) (t : State) => ∃ (q_6 : Nat) (q_7 : Nat) (q_9 : Nat) (q_5 : Nat) (q_10 : Nat), va_P D vwCl [((a 200), f_m a g), (q_6, .inl (g 0, 0, .inl (fun _ => 0))), ((a 202), .inr (5, [.int 1, .ref q_7, .int 1])), (q_7, .inl (g 8, 10, .inr (.inr (.inr (.inr (va_up (fun _ => none) (0 : Int32).toNatClampNeg (some (g 1128)))))))), ((a 203), .inr (5, [.int 1, .ref q_9, .int 1])), (q_9, .inl (g 8, 10, .inr (.inr (.inr (.inr (va_up (fun _ => none) (0 : Int32).toNatClampNeg (some (g 1128)))))))), (q_5, .inr (19, [.int 102, .ref q_6, .int 0, .int (-1), .int 0, .int (-1), .int 0, .int 0])), ((a 201), .inr (5, [.int 1, .ref q_10, .int 1])), (q_10, .inl (g 8, 10, .inr (.inr (.inr (.inr (va_up (fun _ => none) (0 : Int32).toNatClampNeg (some q_5)))))))] t.heap ∧ va_D (va_A [((a 200), f_m a g), ((a 201), .inr (5, [.int 0, .ref (g 100), .int 0])), ((a 202), .inr (5, [.int 0, .ref (g 100), .int 0])), ((a 203), .inr (5, [.int 0, .ref (g 100), .int 0]))] sz) [((a 200), f_m a g), (q_6, .inl (g 0, 0, .inl (fun _ => 0))), ((a 202), .inr (5, [.int 1, .ref q_7, .int 1])), (q_7, .inl (g 8, 10, .inr (.inr (.inr (.inr (va_up (fun _ => none) (0 : Int32).toNatClampNeg (some (g 1128)))))))), ((a 203), .inr (5, [.int 1, .ref q_9, .int 1])), (q_9, .inl (g 8, 10, .inr (.inr (.inr (.inr (va_up (fun _ => none) (0 : Int32).toNatClampNeg (some (g 1128)))))))), (q_5, .inr (19, [.int 102, .ref q_6, .int 0, .int (-1), .int 0, .int (-1), .int 0, .int 0])), ((a 201), .inr (5, [.int 1, .ref q_10, .int 1])), (q_10, .inl (g 8, 10, .inr (.inr (.inr (.inr (va_up (fun _ => none) (0 : Int32).toNatClampNeg (some q_5)))))))]) (va_A [((a 200), f_m a g), ((a 201), .inr (5, [.int 0, .ref (g 100), .int 0])), ((a 202), .inr (5, [.int 0, .ref (g 100), .int 0])), ((a 203), .inr (5, [.int 0, .ref (g 100), .int 0]))] sz)) 5 38 (va_A [((a 200), f_m a g), ((a 201), .inr (5, [.int 0, .ref (g 100), .int 0])), ((a 202), .inr (5, [.int 0, .ref (g 100), .int 0])), ((a 203), .inr (5, [.int 0, .ref (g 100), .int 0]))] sz) := by
  refine met0 (cc := cX15_addSource) (n := 3) (by decide) (Nat.le_of_ble_eq_true rfl) ?_
  intro p e s m args below meth c hx hb hr hml hown ht hlocks hnm hP0 hD0 hK hZ hsz hz ls hl
  subst hsz
  have hA : ∀ q : Nat, s.heap.size ≤ q → va_A [((a 200), f_m a g), ((a 201), .inr (5, [.int 0, .ref (g 100), .int 0])), ((a 202), .inr (5, [.int 0, .ref (g 100), .int 0])), ((a 203), .inr (5, [.int 0, .ref (g 100), .int 0]))] s.heap.size q := Anw
  have hAz : ∀ q, va_A [((a 200), f_m a g), ((a 201), .inr (5, [.int 0, .ref (g 100), .int 0])), ((a 202), .inr (5, [.int 0, .ref (g 100), .int 0])), ((a 203), .inr (5, [.int 0, .ref (g 100), .int 0]))] s.heap.size q → z0 ≤ q := Awz hz hD0
  have hS : va_S (va_A [((a 200), f_m a g), ((a 201), .inr (5, [.int 0, .ref (g 100), .int 0])), ((a 202), .inr (5, [.int 0, .ref (g 100), .int 0])), ((a 203), .inr (5, [.int 0, .ref (g 100), .int 0]))] s.heap.size) s.heap s.heap [] := va_S.rf
  have hD : va_D (va_A [((a 200), f_m a g), ((a 201), .inr (5, [.int 0, .ref (g 100), .int 0])), ((a 202), .inr (5, [.int 0, .ref (g 100), .int 0])), ((a 203), .inr (5, [.int 0, .ref (g 100), .int 0]))] s.heap.size) [((a 200), f_m a g), ((a 201), .inr (5, [.int 0, .ref (g 100), .int 0])), ((a 202), .inr (5, [.int 0, .ref (g 100), .int 0])), ((a 203), .inr (5, [.int 0, .ref (g 100), .int 0]))] := hD0.self
  have hP : va_P D vwCl [((a 200), f_m a g), ((a 201), .inr (5, [.int 0, .ref (g 100), .int 0])), ((a 202), .inr (5, [.int 0, .ref (g 100), .int 0])), ((a 203), .inr (5, [.int 0, .ref (g 100), .int 0]))] s.heap := hP0
  have hl : lv_has ls 3 [(0, .ref (a 200)), (1, .int 102)] := hl
  refine lv_aload_n hx hb dX15_addSource_0 rfl (lv_at hl 0 rfl) ?_
  refine lv_aload_n hx hb dX15_addSource_1 rfl (lv_at hl 0 rfl) ?_
  refine va_get (D := D) (ci := 21) (v := .int 0) (C := RX15) (T := TX15) (N := 29) hx hb ht in_X15 hown hK.1 hP 0 rfl rfl 7 (by decide) (ht _ w_383) (fun _ h9 => h9) rfl dX15_addSource_2 ?_
  refine lv_if_eq (tgt := 12) hx hb dX15_addSource_5 (by decide) (fun c_1 => ?_) (fun c_1 => ?_)
  · refine lv_aload_n hx hb dX15_addSource_12 rfl (lv_at hl 0 rfl) ?_
    refine va_get (D := D) (ci := 21) (v := .ref (a 201)) (C := RX15) (T := TX15) (N := 29) hx hb ht in_X15 hown hK.1 hP 0 rfl rfl 1 (by decide) (ht _ w_354) (fun _ h9 => h9) rfl dX15_addSource_13 ?_
    have hPc : va_P D vwCl [((a 201), .inr (5, [.int 0, .ref (g 100), .int 0]))] _ := hP.sub (ws' := [((a 201), .inr (5, [.int 0, .ref (g 100), .int 0]))]) [1] rfl
    have hDc : va_D (fun q => z0 ≤ q) [((a 201), .inr (5, [.int 0, .ref (g 100), .int 0]))] := (hD.to hAz).pick (ws' := [((a 201), .inr (5, [.int 0, .ref (g 100), .int 0]))]) [1] (by decide) rfl
    have hFc := AnA (ws := [((a 200), f_m a g), ((a 201), .inr (5, [.int 0, .ref (g 100), .int 0])), ((a 202), .inr (5, [.int 0, .ref (g 100), .int 0])), ((a 203), .inr (5, [.int 0, .ref (g 100), .int 0]))]) hS.1
    refine va_callFi (va_runF (As := []) (rest := [.ref (a 200)]) (hK.1.1 5 _ rfl).2 ⟨hx, hb, hml, hown, ht⟩ (k_Jx4a65c_size_8abf5 l D g z0 _ a (a 201)) (va_cwF 0 ht (gF w_356 w_358 w_359 w_323 w_357) rfl rfl rfl (hK.2.2.2.1 _ (List.mem_of_getElem? (i := 0) rfl)) (by decide +kernel) (le2 rfl rfl)) ⟨PP.blind, va_recv hK.1 hP (ci := 5) (q0 := 1) rfl rfl, PP.mk' hK hZ hz hAz hS hPc hDc⟩ rfl rfl hl.1 rfl (lv_room (Nat.le_of_ble_eq_true rfl)) dX15_addSource_16 (le2 rfl rfl)) hS (fun q _ h => hFc q h) hFc (fun r u t H locs ht1 hvm hw hB hz1 hk1 hS => ?_)
    obtain ⟨rfl, hw⟩ := hw
    have hP := ro1 hP hk1
    refine lv_bipush (v := 40) hx hb dX15_addSource_21 (by decide) ?_
    refine lv_icmp_eq (tgt := 40) hx hb dX15_addSource_23 (by decide) (fun c_2 => ?_) (fun c_2 => ?_)
    · exact absurd c_2 (by decide)
    · refine lv_aload_n hx hb dX15_addSource_26 rfl (lv_at hl 0 rfl) ?_
      refine va_get (D := D) (ci := 21) (v := .ref (a 202)) (C := RX15) (T := TX15) (N := 29) hx hb ht in_X15 hown hK.1 hP 0 rfl rfl 2 (by decide) (ht _ w_437) (fun _ h9 => h9) rfl dX15_addSource_27 ?_
      have hPc : va_P D vwCl [((a 202), .inr (5, [.int 0, .ref (g 100), .int 0]))] _ := hP.sub (ws' := [((a 202), .inr (5, [.int 0, .ref (g 100), .int 0]))]) [2] rfl
      have hDc : va_D (fun q => z0 ≤ q) [((a 202), .inr (5, [.int 0, .ref (g 100), .int 0]))] := (hD.to hAz).pick (ws' := [((a 202), .inr (5, [.int 0, .ref (g 100), .int 0]))]) [2] (by decide) rfl
      have hFc := AnA (ws := [((a 200), f_m a g), ((a 201), .inr (5, [.int 0, .ref (g 100), .int 0])), ((a 202), .inr (5, [.int 0, .ref (g 100), .int 0])), ((a 203), .inr (5, [.int 0, .ref (g 100), .int 0]))]) hS.1
      refine va_callFi (va_runF (As := []) (rest := [.ref (a 200)]) (hK.1.1 5 _ rfl).2 ⟨hx, hb, hml, hown, ht⟩ (k_Jx4a65c_size_8abf5 l D g z0 _ a (a 202)) (va_cwF 0 ht (gF w_356 w_358 w_359 w_323 w_357) rfl rfl rfl (hK.2.2.2.1 _ (List.mem_of_getElem? (i := 0) rfl)) (by decide +kernel) (le2 rfl rfl)) ⟨PP.blind, va_recv hK.1 hP (ci := 5) (q0 := 2) rfl rfl, PP.mk' hK hZ hz hAz hS hPc hDc⟩ rfl rfl hl.1 rfl (lv_room (Nat.le_of_ble_eq_true rfl)) dX15_addSource_30 (le2 rfl rfl)) hS (fun q _ h => hFc q h) hFc (fun r u t H locs ht1 hvm hw hB hz1 hk1 hS => ?_)
      obtain ⟨rfl, hw⟩ := hw
      have hP := ro1 hP hk1
      refine lv_bipush (v := 12) hx hb dX15_addSource_35 (by decide) ?_
      refine lv_icmp_ne (tgt := 44) hx hb dX15_addSource_37 (by decide) (fun c_3 => ?_) (fun c_3 => ?_)
      · refine lv_iconst (v := 0) hx hb dX15_addSource_44 (by decide) ?_
        have hPc : va_P D vwCl [((a 200), f_m a g)] _ := hP.sub (ws' := [((a 200), f_m a g)]) [0] rfl
        have hDc : va_D (fun q => z0 ≤ q) [((a 200), f_m a g)] := (hD.to hAz).pick (ws' := [((a 200), f_m a g)]) [0] (by decide) rfl
        have hFc := va_free (wc := [((a 200), f_m a g)]) hD hS hA [0] rfl
        refine va_calli (va_runV (As := [.int 0]) (rest := []) ⟨hx, hb, hml, hown, ht⟩ (k_X15_isWrong_v1 l D g z0 _ a) (cwV 1 ht (gV w_376 w_378 w_379 w_334 w_377) rfl rfl rfl (by decide +kernel) (le2 rfl rfl)) ⟨PP.blind, va_recv hK.1 hP (ci := 21) (q0 := 0) rfl rfl, PP.mk' hK hZ hz hAz hS hPc hDc⟩ rfl rfl hl.1 rfl (lv_room (Nat.le_of_ble_eq_true rfl)) dX15_addSource_45 (le2 rfl rfl)) hS (fun q _ h => hFc q h) hFc (fun r u t H locs ht1 hvm hw hB hz1 hk1 hS => ?_)
        obtain ⟨rfl, hw⟩ := hw
        obtain ⟨hP1, hD1⟩ := hB
        rw [ht1] at hP1
        obtain ⟨hP, hD⟩ := va_join (wr := [((a 201), .inr (5, [.int 0, .ref (g 100), .int 0])), ((a 202), .inr (5, [.int 0, .ref (g 100), .int 0])), ((a 203), .inr (5, [.int 0, .ref (g 100), .int 0]))]) (w1 := [((a 200), f_m a g)]) hP hD [0] [1, 2, 3] rfl rfl (by decide) (by decide) hk1 hFc hP1 hD1
        have hP : va_P D vwCl [((a 201), .inr (5, [.int 0, .ref (g 100), .int 0])), ((a 202), .inr (5, [.int 0, .ref (g 100), .int 0])), ((a 203), .inr (5, [.int 0, .ref (g 100), .int 0])), ((a 200), f_m a g)] H := hP
        have hD : va_D (va_A [((a 200), f_m a g), ((a 201), .inr (5, [.int 0, .ref (g 100), .int 0])), ((a 202), .inr (5, [.int 0, .ref (g 100), .int 0])), ((a 203), .inr (5, [.int 0, .ref (g 100), .int 0]))] s.heap.size) [((a 201), .inr (5, [.int 0, .ref (g 100), .int 0])), ((a 202), .inr (5, [.int 0, .ref (g 100), .int 0])), ((a 203), .inr (5, [.int 0, .ref (g 100), .int 0])), ((a 200), f_m a g)] := hD
        refine lv_if_eq (tgt := 53) hx hb dX15_addSource_48 (by decide) (fun c_4 => ?_) (fun c_4 => ?_)
        · refine va_new (ci := 19) (fs := [.int 0, .null, .int 0, .int 0, .int 0, .int 0, .int 0, .int 0]) (C := RX13) (T := TX13) (N := 8) hx hb ht in_X13 tyX13 tyX13_ok hown (ht _ w_438) (ht _ w_439) (ht _ w_440) hK.1 hP hD hS hA rfl (fun j hj => by rcases (show j = 0 ∨ j = 1 ∨ j = 2 ∨ j = 3 ∨ j = 4 ∨ j = 5 ∨ j = 6 ∨ j = 7 by omega) with rfl | rfl | rfl | rfl | rfl | rfl | rfl | rfl <;> rfl) (Nat.le_of_ble_eq_true rfl) (Nat.le_of_ble_eq_true rfl) dX15_addSource_53 (fun q_5 H hP hD hS => ?_)
          have hP : va_P D vwCl [((a 201), .inr (5, [.int 0, .ref (g 100), .int 0])), ((a 202), .inr (5, [.int 0, .ref (g 100), .int 0])), ((a 203), .inr (5, [.int 0, .ref (g 100), .int 0])), ((a 200), f_m a g), (q_5, .inr (19, [.int 0, .null, .int 0, .int 0, .int 0, .int 0, .int 0, .int 0]))] H := hP
          have hD : va_D (va_A [((a 200), f_m a g), ((a 201), .inr (5, [.int 0, .ref (g 100), .int 0])), ((a 202), .inr (5, [.int 0, .ref (g 100), .int 0])), ((a 203), .inr (5, [.int 0, .ref (g 100), .int 0]))] s.heap.size) [((a 201), .inr (5, [.int 0, .ref (g 100), .int 0])), ((a 202), .inr (5, [.int 0, .ref (g 100), .int 0])), ((a 203), .inr (5, [.int 0, .ref (g 100), .int 0])), ((a 200), f_m a g), (q_5, .inr (19, [.int 0, .null, .int 0, .int 0, .int 0, .int 0, .int 0, .int 0]))] := hD
          refine lv_dup hx hb dX15_addSource_56 rfl ?_
          refine lv_iload_n hx hb dX15_addSource_57 rfl (lv_at hl 1 rfl) ?_
          refine lv_iconst (v := 0) hx hb dX15_addSource_58 (by decide) ?_
          refine r_newa (atype := .int) (cy := g 0) (a0 := (0, .inl (fun _ => 0))) hx hb (ht _ w_353) hK.2.1.1 hP hD hS hA (fun _ => rfl) (by decide) (by decide) (by decide) (Nat.le_of_ble_eq_true rfl) (Nat.le_of_ble_eq_true rfl) dX15_addSource_59 (fun q_6 H hP hD hS => ?_)
          have hP : va_P D vwCl [((a 201), .inr (5, [.int 0, .ref (g 100), .int 0])), ((a 202), .inr (5, [.int 0, .ref (g 100), .int 0])), ((a 203), .inr (5, [.int 0, .ref (g 100), .int 0])), ((a 200), f_m a g), (q_5, .inr (19, [.int 0, .null, .int 0, .int 0, .int 0, .int 0, .int 0, .int 0])), (q_6, .inl (g 0, 0, .inl (fun _ => 0)))] H := hP
          have hD : va_D (va_A [((a 200), f_m a g), ((a 201), .inr (5, [.int 0, .ref (g 100), .int 0])), ((a 202), .inr (5, [.int 0, .ref (g 100), .int 0])), ((a 203), .inr (5, [.int 0, .ref (g 100), .int 0]))] s.heap.size) [((a 201), .inr (5, [.int 0, .ref (g 100), .int 0])), ((a 202), .inr (5, [.int 0, .ref (g 100), .int 0])), ((a 203), .inr (5, [.int 0, .ref (g 100), .int 0])), ((a 200), f_m a g), (q_5, .inr (19, [.int 0, .null, .int 0, .int 0, .int 0, .int 0, .int 0, .int 0])), (q_6, .inl (g 0, 0, .inl (fun _ => 0)))] := hD
          have hPc : va_P D vwCl [(q_5, .inr (19, [.int 0, .null, .int 0, .int 0, .int 0, .int 0, .int 0, .int 0]))] _ := hP.sub (ws' := [(q_5, .inr (19, [.int 0, .null, .int 0, .int 0, .int 0, .int 0, .int 0, .int 0]))]) [4] rfl
          have hDc : va_D (fun q => z0 ≤ q) [(q_5, .inr (19, [.int 0, .null, .int 0, .int 0, .int 0, .int 0, .int 0, .int 0]))] := (hD.to hAz).pick (ws' := [(q_5, .inr (19, [.int 0, .null, .int 0, .int 0, .int 0, .int 0, .int 0, .int 0]))]) [4] (by decide) rfl
          have hFc := va_free (wc := [(q_5, .inr (19, [.int 0, .null, .int 0, .int 0, .int 0, .int 0, .int 0, .int 0]))]) hD hS hA [4] rfl
          refine va_callv (va_runI (As := [.int 102, .ref q_6]) (rest := [.ref q_5]) ⟨hx, hb, hml, hown, ht⟩ (k_X13_init l D g z0 _ a q_5 102 q_6 ⟨rfl, rfl⟩) (cwI 2 ht (gI w_448) rfl rfl rfl (ht _ w_440) (ht _ w_447) (ht _ w_449) rfl (by decide +kernel) (le2 rfl rfl)) ⟨PP.blind, PP.mk' hK hZ hz hAz hS hPc hDc⟩ rfl rfl hl.1 rfl (lv_room (Nat.le_of_ble_eq_true rfl)) dX15_addSource_61 (le2 rfl rfl)) hS (fun q _ h => hFc q h) hFc (fun u t H locs ht1 hvm hw hB hz1 hk1 hS => ?_)
          obtain ⟨hP1, hD1⟩ := hB
          rw [ht1] at hP1
          obtain ⟨hP, hD⟩ := va_join (wr := [((a 201), .inr (5, [.int 0, .ref (g 100), .int 0])), ((a 202), .inr (5, [.int 0, .ref (g 100), .int 0])), ((a 203), .inr (5, [.int 0, .ref (g 100), .int 0])), ((a 200), f_m a g), (q_6, .inl (g 0, 0, .inl (fun _ => 0)))]) (w1 := [(q_5, .inr (19, [.int 102, .ref q_6, .int (-1), .int (-1), .int 0, .int (-1), .int 0, .int 0]))]) hP hD [4] [0, 1, 2, 3, 5] rfl rfl (by decide) (by decide) hk1 hFc hP1 hD1
          have hP : va_P D vwCl [((a 201), .inr (5, [.int 0, .ref (g 100), .int 0])), ((a 202), .inr (5, [.int 0, .ref (g 100), .int 0])), ((a 203), .inr (5, [.int 0, .ref (g 100), .int 0])), ((a 200), f_m a g), (q_6, .inl (g 0, 0, .inl (fun _ => 0))), (q_5, .inr (19, [.int 102, .ref q_6, .int (-1), .int (-1), .int 0, .int (-1), .int 0, .int 0]))] H := hP
          have hD : va_D (va_A [((a 200), f_m a g), ((a 201), .inr (5, [.int 0, .ref (g 100), .int 0])), ((a 202), .inr (5, [.int 0, .ref (g 100), .int 0])), ((a 203), .inr (5, [.int 0, .ref (g 100), .int 0]))] s.heap.size) [((a 201), .inr (5, [.int 0, .ref (g 100), .int 0])), ((a 202), .inr (5, [.int 0, .ref (g 100), .int 0])), ((a 203), .inr (5, [.int 0, .ref (g 100), .int 0])), ((a 200), f_m a g), (q_6, .inl (g 0, 0, .inl (fun _ => 0))), (q_5, .inr (19, [.int 102, .ref q_6, .int (-1), .int (-1), .int 0, .int (-1), .int 0, .int 0]))] := hD
          refine lv_astore_n (lv' := [(2, .ref q_5), (0, .ref (a 200)), (1, .int 102)]) hx hb dX15_addSource_64 rfl hl (by decide) rfl (fun ls hl => ?_)
          refine lv_aload_n hx hb dX15_addSource_65 rfl (lv_at hl 0 rfl) ?_
          refine lv_aload_n hx hb dX15_addSource_66 rfl (lv_at hl 1 rfl) ?_
          refine va_get (D := D) (ci := 21) (v := .ref (a 202)) (C := RX15) (T := TX15) (N := 29) hx hb ht in_X15 hown hK.1 hP 3 rfl rfl 2 (by decide) (ht _ w_437) (fun _ h9 => h9) rfl dX15_addSource_67 ?_
          have hPc : va_P D vwCl [((a 202), .inr (5, [.int 0, .ref (g 100), .int 0]))] _ := hP.sub (ws' := [((a 202), .inr (5, [.int 0, .ref (g 100), .int 0]))]) [1] rfl
          have hDc : va_D (fun q => z0 ≤ q) [((a 202), .inr (5, [.int 0, .ref (g 100), .int 0]))] := (hD.to hAz).pick (ws' := [((a 202), .inr (5, [.int 0, .ref (g 100), .int 0]))]) [1] (by decide) rfl
          have hFc := AnA (ws := [((a 200), f_m a g), ((a 201), .inr (5, [.int 0, .ref (g 100), .int 0])), ((a 202), .inr (5, [.int 0, .ref (g 100), .int 0])), ((a 203), .inr (5, [.int 0, .ref (g 100), .int 0]))]) hS.1
          refine va_callFi (va_runF (As := []) (rest := [.ref q_5]) (hK.1.1 5 _ rfl).2 ⟨hx, hb, hml, hown, ht⟩ (k_Jx4a65c_size_8abf5 l D g z0 _ a (a 202)) (va_cwF 0 ht (gF w_356 w_358 w_359 w_323 w_357) rfl rfl rfl (hK.2.2.2.1 _ (List.mem_of_getElem? (i := 0) rfl)) (by decide +kernel) (le2 rfl rfl)) ⟨PP.blind, va_recv hK.1 hP (ci := 5) (q0 := 1) rfl rfl, PP.mk' hK hZ hz hAz hS hPc hDc⟩ rfl rfl hl.1 rfl (lv_room (Nat.le_of_ble_eq_true rfl)) dX15_addSource_70 (le2 rfl rfl)) hS (fun q _ h => hFc q h) hFc (fun r u t H locs ht1 hvm hw hB hz1 hk1 hS => ?_)
          obtain ⟨rfl, hw⟩ := hw
          have hP := ro1 hP hk1
          refine va_putN (D := D) (ci := 19) (v := .int 0) (ty := .int) (C := RX13) (T := TX13) (N := 8) hx hb ht in_X13 tyX13 tyX13_ok nmX13 hown hK.1 hP hD hS 5 rfl rfl 2 (by decide) (hK.2.2.use w_450) (fun _ h9 => h9) rfl (by decide +kernel) rfl rfl (Nat.le_of_ble_eq_true rfl) dX15_addSource_75 (fun H locs hP hD hS => ?_)
          have hP : va_P D vwCl [((a 201), .inr (5, [.int 0, .ref (g 100), .int 0])), ((a 202), .inr (5, [.int 0, .ref (g 100), .int 0])), ((a 203), .inr (5, [.int 0, .ref (g 100), .int 0])), ((a 200), f_m a g), (q_6, .inl (g 0, 0, .inl (fun _ => 0))), (q_5, .inr (19, [.int 102, .ref q_6, .int 0, .int (-1), .int 0, .int (-1), .int 0, .int 0]))] H := hP
          have hD : va_D (va_A [((a 200), f_m a g), ((a 201), .inr (5, [.int 0, .ref (g 100), .int 0])), ((a 202), .inr (5, [.int 0, .ref (g 100), .int 0])), ((a 203), .inr (5, [.int 0, .ref (g 100), .int 0]))] s.heap.size) [((a 201), .inr (5, [.int 0, .ref (g 100), .int 0])), ((a 202), .inr (5, [.int 0, .ref (g 100), .int 0])), ((a 203), .inr (5, [.int 0, .ref (g 100), .int 0])), ((a 200), f_m a g), (q_6, .inl (g 0, 0, .inl (fun _ => 0))), (q_5, .inr (19, [.int 102, .ref q_6, .int 0, .int (-1), .int 0, .int (-1), .int 0, .int 0]))] := hD
          refine lv_aload_n hx hb dX15_addSource_78 rfl (lv_at hl 1 rfl) ?_
          refine va_get (D := D) (ci := 21) (v := .ref (a 202)) (C := RX15) (T := TX15) (N := 29) hx hb ht in_X15 hown hK.1 hP 3 rfl rfl 2 (by decide) (ht _ w_437) (fun _ h9 => h9) rfl dX15_addSource_79 ?_
          refine lv_aload_n hx hb dX15_addSource_82 rfl (lv_at hl 1 rfl) ?_
          refine va_get (D := D) (ci := 21) (v := .ref (a 201)) (C := RX15) (T := TX15) (N := 29) hx hb ht in_X15 hown hK.1 hP 3 rfl rfl 1 (by decide) (ht _ w_354) (fun _ h9 => h9) rfl dX15_addSource_83 ?_
          have hPc : va_P D vwCl [((a 201), .inr (5, [.int 0, .ref (g 100), .int 0]))] _ := hP.sub (ws' := [((a 201), .inr (5, [.int 0, .ref (g 100), .int 0]))]) [0] rfl
          have hDc : va_D (fun q => z0 ≤ q) [((a 201), .inr (5, [.int 0, .ref (g 100), .int 0]))] := (hD.to hAz).pick (ws' := [((a 201), .inr (5, [.int 0, .ref (g 100), .int 0]))]) [0] (by decide) rfl
          have hFc := AnA (ws := [((a 200), f_m a g), ((a 201), .inr (5, [.int 0, .ref (g 100), .int 0])), ((a 202), .inr (5, [.int 0, .ref (g 100), .int 0])), ((a 203), .inr (5, [.int 0, .ref (g 100), .int 0]))]) hS.1
          refine va_callFi (va_runF (As := []) (rest := [.ref (a 202)]) (hK.1.1 5 _ rfl).2 ⟨hx, hb, hml, hown, ht⟩ (k_Jx4a65c_size_8abf5 l D g z0 _ a (a 201)) (va_cwF 0 ht (gF w_356 w_358 w_359 w_323 w_357) rfl rfl rfl (hK.2.2.2.1 _ (List.mem_of_getElem? (i := 0) rfl)) (by decide +kernel) (le2 rfl rfl)) ⟨PP.blind, va_recv hK.1 hP (ci := 5) (q0 := 0) rfl rfl, PP.mk' hK hZ hz hAz hS hPc hDc⟩ rfl rfl hl.1 rfl (lv_room (Nat.le_of_ble_eq_true rfl)) dX15_addSource_86 (le2 rfl rfl)) hS (fun q _ h => hFc q h) hFc (fun r u t H locs ht1 hvm hw hB hz1 hk1 hS => ?_)
          obtain ⟨rfl, hw⟩ := hw
          have hP := ro1 hP hk1
          have hPc : va_P D vwCl [] _ := hP.sub (ws' := []) [] rfl
          have hDc : va_D (fun q => z0 ≤ q) [] := (hD.to hAz).pick (ws' := []) [] (by decide) rfl
          have hFc := AnA (ws := [((a 200), f_m a g), ((a 201), .inr (5, [.int 0, .ref (g 100), .int 0])), ((a 202), .inr (5, [.int 0, .ref (g 100), .int 0])), ((a 203), .inr (5, [.int 0, .ref (g 100), .int 0]))]) hS.1
          refine va_callr (va_runS (As := [.int 0]) (rest := [.ref (a 202)]) ⟨hx, hb, hml, hown, ht⟩ (k_J6_valueOf_2dffe l D g z0 _ a) (va_cwS 1 ht (gS w_453 w_455 w_280 w_454) rfl rfl rfl (by decide +kernel) (le2 rfl rfl)) ⟨PP.blind, PP.mk' hK hZ hz hAz hS hPc hDc⟩ rfl rfl hl.1 rfl (lv_room (Nat.le_of_ble_eq_true rfl)) dX15_addSource_91 (le2 rfl rfl)) hS (fun q _ h => hFc q h) hFc (fun u ra t H locs ht1 hvm hw hB hz1 hk1 hS => ?_)
          have hP := ro1 hP hk1
          subst hB
          have hPc : va_P D vwCl [((a 202), .inr (5, [.int 0, .ref (g 100), .int 0]))] _ := hP.sub (ws' := [((a 202), .inr (5, [.int 0, .ref (g 100), .int 0]))]) [1] rfl
          have hDc : va_D (fun q => z0 ≤ q) [((a 202), .inr (5, [.int 0, .ref (g 100), .int 0]))] := (hD.to hAz).pick (ws' := [((a 202), .inr (5, [.int 0, .ref (g 100), .int 0]))]) [1] (by decide) rfl
          have hFc := va_free (wc := [((a 202), .inr (5, [.int 0, .ref (g 100), .int 0]))]) hD hS hA [1] rfl
          refine va_callFi (va_runF (As := [.ref (g 1128)]) (rest := []) (hK.1.1 5 _ rfl).2 ⟨hx, hb, hml, hown, ht⟩ (k_Jx4a65c_add_9ea2d l D g z0 _ a (a 202)) (va_cwF 1 ht (gF w_472 w_474 w_475 w_323 w_473) rfl rfl rfl (hK.2.2.2.1 _ (List.mem_of_getElem? (i := 1) rfl)) (by decide +kernel) (le2 rfl rfl)) ⟨PP.blind, va_recv hK.1 hP (ci := 5) (q0 := 1) rfl rfl, PP.mk' hK hZ hz hAz hS hPc hDc⟩ rfl rfl hl.1 rfl (lv_room (Nat.le_of_ble_eq_true rfl)) dX15_addSource_94 (le2 rfl rfl)) hS (fun q _ h => hFc q h) hFc (fun r u t H locs ht1 hvm hw hB hz1 hk1 hS => ?_)
          obtain ⟨rfl, hw⟩ := hw
          obtain ⟨q_7, hP1, hD1⟩ := hB
          rw [ht1] at hP1
          obtain ⟨hP, hD⟩ := va_join (wr := [((a 201), .inr (5, [.int 0, .ref (g 100), .int 0])), ((a 203), .inr (5, [.int 0, .ref (g 100), .int 0])), ((a 200), f_m a g), (q_6, .inl (g 0, 0, .inl (fun _ => 0))), (q_5, .inr (19, [.int 102, .ref q_6, .int 0, .int (-1), .int 0, .int (-1), .int 0, .int 0]))]) (w1 := [((a 202), .inr (5, [.int 1, .ref q_7, .int 1])), (q_7, .inl (g 8, 10, .inr (.inr (.inr (.inr (va_up (fun _ => none) (0 : Int32).toNatClampNeg (some (g 1128))))))))]) hP hD [1] [0, 2, 3, 4, 5] rfl rfl (by decide) (by decide) hk1 hFc hP1 hD1
          have hP : va_P D vwCl [((a 201), .inr (5, [.int 0, .ref (g 100), .int 0])), ((a 203), .inr (5, [.int 0, .ref (g 100), .int 0])), ((a 200), f_m a g), (q_6, .inl (g 0, 0, .inl (fun _ => 0))), (q_5, .inr (19, [.int 102, .ref q_6, .int 0, .int (-1), .int 0, .int (-1), .int 0, .int 0])), ((a 202), .inr (5, [.int 1, .ref q_7, .int 1])), (q_7, .inl (g 8, 10, .inr (.inr (.inr (.inr (va_up (fun _ => none) (0 : Int32).toNatClampNeg (some (g 1128))))))))] H := hP
          have hD : va_D (va_A [((a 200), f_m a g), ((a 201), .inr (5, [.int 0, .ref (g 100), .int 0])), ((a 202), .inr (5, [.int 0, .ref (g 100), .int 0])), ((a 203), .inr (5, [.int 0, .ref (g 100), .int 0]))] s.heap.size) [((a 201), .inr (5, [.int 0, .ref (g 100), .int 0])), ((a 203), .inr (5, [.int 0, .ref (g 100), .int 0])), ((a 200), f_m a g), (q_6, .inl (g 0, 0, .inl (fun _ => 0))), (q_5, .inr (19, [.int 102, .ref q_6, .int 0, .int (-1), .int 0, .int (-1), .int 0, .int 0])), ((a 202), .inr (5, [.int 1, .ref q_7, .int 1])), (q_7, .inl (g 8, 10, .inr (.inr (.inr (.inr (va_up (fun _ => none) (0 : Int32).toNatClampNeg (some (g 1128))))))))] := hD
          refine lv_pop hx hb dX15_addSource_99 rfl ?_
          refine lv_iload_n hx hb dX15_addSource_100 rfl (lv_at hl 2 rfl) ?_
          refine lv_bipush (v := 102) hx hb dX15_addSource_101 (by decide) ?_
          refine lv_icmp_ne (tgt := 128) hx hb dX15_addSource_103 (by decide) (fun c_8 => ?_) (fun c_8 => ?_)
          · exact absurd c_8 (by decide)
          · refine lv_aload_n hx hb dX15_addSource_106 rfl (lv_at hl 1 rfl) ?_
            refine va_get (D := D) (ci := 21) (v := .ref (a 203)) (C := RX15) (T := TX15) (N := 29) hx hb ht in_X15 hown hK.1 hP 2 rfl rfl 3 (by decide) (ht _ w_382) (fun _ h9 => h9) rfl dX15_addSource_107 ?_
            refine lv_aload_n hx hb dX15_addSource_110 rfl (lv_at hl 1 rfl) ?_
            refine va_get (D := D) (ci := 21) (v := .ref (a 201)) (C := RX15) (T := TX15) (N := 29) hx hb ht in_X15 hown hK.1 hP 2 rfl rfl 1 (by decide) (ht _ w_354) (fun _ h9 => h9) rfl dX15_addSource_111 ?_
            have hPc : va_P D vwCl [((a 201), .inr (5, [.int 0, .ref (g 100), .int 0]))] _ := hP.sub (ws' := [((a 201), .inr (5, [.int 0, .ref (g 100), .int 0]))]) [0] rfl
            have hDc : va_D (fun q => z0 ≤ q) [((a 201), .inr (5, [.int 0, .ref (g 100), .int 0]))] := (hD.to hAz).pick (ws' := [((a 201), .inr (5, [.int 0, .ref (g 100), .int 0]))]) [0] (by decide) rfl
            have hFc := AnA (ws := [((a 200), f_m a g), ((a 201), .inr (5, [.int 0, .ref (g 100), .int 0])), ((a 202), .inr (5, [.int 0, .ref (g 100), .int 0])), ((a 203), .inr (5, [.int 0, .ref (g 100), .int 0]))]) hS.1
            refine va_callFi (va_runF (As := []) (rest := [.ref (a 203)]) (hK.1.1 5 _ rfl).2 ⟨hx, hb, hml, hown, ht⟩ (k_Jx4a65c_size_8abf5 l D g z0 _ a (a 201)) (va_cwF 0 ht (gF w_356 w_358 w_359 w_323 w_357) rfl rfl rfl (hK.2.2.2.1 _ (List.mem_of_getElem? (i := 0) rfl)) (by decide +kernel) (le2 rfl rfl)) ⟨PP.blind, va_recv hK.1 hP (ci := 5) (q0 := 0) rfl rfl, PP.mk' hK hZ hz hAz hS hPc hDc⟩ rfl rfl hl.1 rfl (lv_room (Nat.le_of_ble_eq_true rfl)) dX15_addSource_114 (le2 rfl rfl)) hS (fun q _ h => hFc q h) hFc (fun r u t H locs ht1 hvm hw hB hz1 hk1 hS => ?_)
            obtain ⟨rfl, hw⟩ := hw
            have hP := ro1 hP hk1
            have hPc : va_P D vwCl [] _ := hP.sub (ws' := []) [] rfl
            have hDc : va_D (fun q => z0 ≤ q) [] := (hD.to hAz).pick (ws' := []) [] (by decide) rfl
            have hFc := AnA (ws := [((a 200), f_m a g), ((a 201), .inr (5, [.int 0, .ref (g 100), .int 0])), ((a 202), .inr (5, [.int 0, .ref (g 100), .int 0])), ((a 203), .inr (5, [.int 0, .ref (g 100), .int 0]))]) hS.1
            refine va_callr (va_runS (As := [.int 0]) (rest := [.ref (a 203)]) ⟨hx, hb, hml, hown, ht⟩ (k_J6_valueOf_2dffe l D g z0 _ a) (va_cwS 1 ht (gS w_453 w_455 w_280 w_454) rfl rfl rfl (by decide +kernel) (le2 rfl rfl)) ⟨PP.blind, PP.mk' hK hZ hz hAz hS hPc hDc⟩ rfl rfl hl.1 rfl (lv_room (Nat.le_of_ble_eq_true rfl)) dX15_addSource_119 (le2 rfl rfl)) hS (fun q _ h => hFc q h) hFc (fun u ra t H locs ht1 hvm hw hB hz1 hk1 hS => ?_)
            have hP := ro1 hP hk1
            subst hB
            have hPc : va_P D vwCl [((a 203), .inr (5, [.int 0, .ref (g 100), .int 0]))] _ := hP.sub (ws' := [((a 203), .inr (5, [.int 0, .ref (g 100), .int 0]))]) [1] rfl
            have hDc : va_D (fun q => z0 ≤ q) [((a 203), .inr (5, [.int 0, .ref (g 100), .int 0]))] := (hD.to hAz).pick (ws' := [((a 203), .inr (5, [.int 0, .ref (g 100), .int 0]))]) [1] (by decide) rfl
            have hFc := va_free (wc := [((a 203), .inr (5, [.int 0, .ref (g 100), .int 0]))]) hD hS hA [1] rfl
            refine va_callFi (va_runF (As := [.ref (g 1128)]) (rest := []) (hK.1.1 5 _ rfl).2 ⟨hx, hb, hml, hown, ht⟩ (k_Jx4a65c_add_9ea2d l D g z0 _ a (a 203)) (va_cwF 1 ht (gF w_472 w_474 w_475 w_323 w_473) rfl rfl rfl (hK.2.2.2.1 _ (List.mem_of_getElem? (i := 1) rfl)) (by decide +kernel) (le2 rfl rfl)) ⟨PP.blind, va_recv hK.1 hP (ci := 5) (q0 := 1) rfl rfl, PP.mk' hK hZ hz hAz hS hPc hDc⟩ rfl rfl hl.1 rfl (lv_room (Nat.le_of_ble_eq_true rfl)) dX15_addSource_122 (le2 rfl rfl)) hS (fun q _ h => hFc q h) hFc (fun r u t H locs ht1 hvm hw hB hz1 hk1 hS => ?_)
            obtain ⟨rfl, hw⟩ := hw
            obtain ⟨q_9, hP1, hD1⟩ := hB
            rw [ht1] at hP1
            obtain ⟨hP, hD⟩ := va_join (wr := [((a 201), .inr (5, [.int 0, .ref (g 100), .int 0])), ((a 200), f_m a g), (q_6, .inl (g 0, 0, .inl (fun _ => 0))), (q_5, .inr (19, [.int 102, .ref q_6, .int 0, .int (-1), .int 0, .int (-1), .int 0, .int 0])), ((a 202), .inr (5, [.int 1, .ref q_7, .int 1])), (q_7, .inl (g 8, 10, .inr (.inr (.inr (.inr (va_up (fun _ => none) (0 : Int32).toNatClampNeg (some (g 1128))))))))]) (w1 := [((a 203), .inr (5, [.int 1, .ref q_9, .int 1])), (q_9, .inl (g 8, 10, .inr (.inr (.inr (.inr (va_up (fun _ => none) (0 : Int32).toNatClampNeg (some (g 1128))))))))]) hP hD [1] [0, 2, 3, 4, 5, 6] rfl rfl (by decide) (by decide) hk1 hFc hP1 hD1
            have hP : va_P D vwCl [((a 201), .inr (5, [.int 0, .ref (g 100), .int 0])), ((a 200), f_m a g), (q_6, .inl (g 0, 0, .inl (fun _ => 0))), (q_5, .inr (19, [.int 102, .ref q_6, .int 0, .int (-1), .int 0, .int (-1), .int 0, .int 0])), ((a 202), .inr (5, [.int 1, .ref q_7, .int 1])), (q_7, .inl (g 8, 10, .inr (.inr (.inr (.inr (va_up (fun _ => none) (0 : Int32).toNatClampNeg (some (g 1128)))))))), ((a 203), .inr (5, [.int 1, .ref q_9, .int 1])), (q_9, .inl (g 8, 10, .inr (.inr (.inr (.inr (va_up (fun _ => none) (0 : Int32).toNatClampNeg (some (g 1128))))))))] H := hP
            have hD : va_D (va_A [((a 200), f_m a g), ((a 201), .inr (5, [.int 0, .ref (g 100), .int 0])), ((a 202), .inr (5, [.int 0, .ref (g 100), .int 0])), ((a 203), .inr (5, [.int 0, .ref (g 100), .int 0]))] s.heap.size) [((a 201), .inr (5, [.int 0, .ref (g 100), .int 0])), ((a 200), f_m a g), (q_6, .inl (g 0, 0, .inl (fun _ => 0))), (q_5, .inr (19, [.int 102, .ref q_6, .int 0, .int (-1), .int 0, .int (-1), .int 0, .int 0])), ((a 202), .inr (5, [.int 1, .ref q_7, .int 1])), (q_7, .inl (g 8, 10, .inr (.inr (.inr (.inr (va_up (fun _ => none) (0 : Int32).toNatClampNeg (some (g 1128)))))))), ((a 203), .inr (5, [.int 1, .ref q_9, .int 1])), (q_9, .inl (g 8, 10, .inr (.inr (.inr (.inr (va_up (fun _ => none) (0 : Int32).toNatClampNeg (some (g 1128))))))))] := hD
            refine lv_pop hx hb dX15_addSource_127 rfl ?_
            refine lv_aload_n hx hb dX15_addSource_128 rfl (lv_at hl 1 rfl) ?_
            refine va_get (D := D) (ci := 21) (v := .ref (a 201)) (C := RX15) (T := TX15) (N := 29) hx hb ht in_X15 hown hK.1 hP 1 rfl rfl 1 (by decide) (ht _ w_354) (fun _ h9 => h9) rfl dX15_addSource_129 ?_
            refine lv_aload_n hx hb dX15_addSource_132 rfl (lv_at hl 0 rfl) ?_
            have hPc : va_P D vwCl [((a 201), .inr (5, [.int 0, .ref (g 100), .int 0])), (q_5, .inr (19, [.int 102, .ref q_6, .int 0, .int (-1), .int 0, .int (-1), .int 0, .int 0]))] _ := hP.sub (ws' := [((a 201), .inr (5, [.int 0, .ref (g 100), .int 0])), (q_5, .inr (19, [.int 102, .ref q_6, .int 0, .int (-1), .int 0, .int (-1), .int 0, .int 0]))]) [0, 3] rfl
            have hDc : va_D (fun q => z0 ≤ q) [((a 201), .inr (5, [.int 0, .ref (g 100), .int 0])), (q_5, .inr (19, [.int 102, .ref q_6, .int 0, .int (-1), .int 0, .int (-1), .int 0, .int 0]))] := (hD.to hAz).pick (ws' := [((a 201), .inr (5, [.int 0, .ref (g 100), .int 0])), (q_5, .inr (19, [.int 102, .ref q_6, .int 0, .int (-1), .int 0, .int (-1), .int 0, .int 0]))]) [0, 3] (by decide) rfl
            have hFc := va_free (wc := [((a 201), .inr (5, [.int 0, .ref (g 100), .int 0])), (q_5, .inr (19, [.int 102, .ref q_6, .int 0, .int (-1), .int 0, .int (-1), .int 0, .int 0]))]) hD hS hA [0, 3] rfl
            refine va_callFi (va_runF (As := [.ref q_5]) (rest := []) (hK.1.1 5 _ rfl).2 ⟨hx, hb, hml, hown, ht⟩ (k_Jx4a65c_add_9ea2d_v1 l D g z0 _ a (a 201) q_5 q_6 (fun _ => 0)) (va_cwF 1 ht (gF w_472 w_474 w_475 w_323 w_473) rfl rfl rfl (hK.2.2.2.1 _ (List.mem_of_getElem? (i := 1) rfl)) (by decide +kernel) (le2 rfl rfl)) ⟨PP.blind, va_recv hK.1 hP (ci := 5) (q0 := 0) rfl rfl, PP.mk' hK hZ hz hAz hS hPc hDc⟩ rfl rfl hl.1 rfl (lv_room (Nat.le_of_ble_eq_true rfl)) dX15_addSource_133 (le2 rfl rfl)) hS (fun q _ h => hFc q h) hFc (fun r u t H locs ht1 hvm hw hB hz1 hk1 hS => ?_)
            obtain ⟨rfl, hw⟩ := hw
            obtain ⟨q_10, hP1, hD1⟩ := hB
            rw [ht1] at hP1
            obtain ⟨hP, hD⟩ := va_join (wr := [((a 200), f_m a g), (q_6, .inl (g 0, 0, .inl (fun _ => 0))), ((a 202), .inr (5, [.int 1, .ref q_7, .int 1])), (q_7, .inl (g 8, 10, .inr (.inr (.inr (.inr (va_up (fun _ => none) (0 : Int32).toNatClampNeg (some (g 1128)))))))), ((a 203), .inr (5, [.int 1, .ref q_9, .int 1])), (q_9, .inl (g 8, 10, .inr (.inr (.inr (.inr (va_up (fun _ => none) (0 : Int32).toNatClampNeg (some (g 1128))))))))]) (w1 := [(q_5, .inr (19, [.int 102, .ref q_6, .int 0, .int (-1), .int 0, .int (-1), .int 0, .int 0])), ((a 201), .inr (5, [.int 1, .ref q_10, .int 1])), (q_10, .inl (g 8, 10, .inr (.inr (.inr (.inr (va_up (fun _ => none) (0 : Int32).toNatClampNeg (some q_5)))))))]) hP hD [0, 3] [1, 2, 4, 5, 6, 7] rfl rfl (by decide) (by decide) hk1 hFc hP1 hD1
            have hP : va_P D vwCl [((a 200), f_m a g), (q_6, .inl (g 0, 0, .inl (fun _ => 0))), ((a 202), .inr (5, [.int 1, .ref q_7, .int 1])), (q_7, .inl (g 8, 10, .inr (.inr (.inr (.inr (va_up (fun _ => none) (0 : Int32).toNatClampNeg (some (g 1128)))))))), ((a 203), .inr (5, [.int 1, .ref q_9, .int 1])), (q_9, .inl (g 8, 10, .inr (.inr (.inr (.inr (va_up (fun _ => none) (0 : Int32).toNatClampNeg (some (g 1128)))))))), (q_5, .inr (19, [.int 102, .ref q_6, .int 0, .int (-1), .int 0, .int (-1), .int 0, .int 0])), ((a 201), .inr (5, [.int 1, .ref q_10, .int 1])), (q_10, .inl (g 8, 10, .inr (.inr (.inr (.inr (va_up (fun _ => none) (0 : Int32).toNatClampNeg (some q_5)))))))] H := hP
            have hD : va_D (va_A [((a 200), f_m a g), ((a 201), .inr (5, [.int 0, .ref (g 100), .int 0])), ((a 202), .inr (5, [.int 0, .ref (g 100), .int 0])), ((a 203), .inr (5, [.int 0, .ref (g 100), .int 0]))] s.heap.size) [((a 200), f_m a g), (q_6, .inl (g 0, 0, .inl (fun _ => 0))), ((a 202), .inr (5, [.int 1, .ref q_7, .int 1])), (q_7, .inl (g 8, 10, .inr (.inr (.inr (.inr (va_up (fun _ => none) (0 : Int32).toNatClampNeg (some (g 1128)))))))), ((a 203), .inr (5, [.int 1, .ref q_9, .int 1])), (q_9, .inl (g 8, 10, .inr (.inr (.inr (.inr (va_up (fun _ => none) (0 : Int32).toNatClampNeg (some (g 1128)))))))), (q_5, .inr (19, [.int 102, .ref q_6, .int 0, .int (-1), .int 0, .int (-1), .int 0, .int 0])), ((a 201), .inr (5, [.int 1, .ref q_10, .int 1])), (q_10, .inl (g 8, 10, .inr (.inr (.inr (.inr (va_up (fun _ => none) (0 : Int32).toNatClampNeg (some q_5)))))))] := hD
            refine lv_pop hx hb dX15_addSource_138 rfl ?_
            refine lv_aload_n hx hb dX15_addSource_139 rfl (lv_at hl 1 rfl) ?_
            refine va_get (D := D) (ci := 21) (v := .ref (a 201)) (C := RX15) (T := TX15) (N := 29) hx hb ht in_X15 hown hK.1 hP 0 rfl rfl 1 (by decide) (ht _ w_354) (fun _ h9 => h9) rfl dX15_addSource_140 ?_
            have hPc : va_P D vwCl [((a 201), .inr (5, [.int 1, .ref q_10, .int 1]))] _ := hP.sub (ws' := [((a 201), .inr (5, [.int 1, .ref q_10, .int 1]))]) [7] rfl
            have hDc : va_D (fun q => z0 ≤ q) [((a 201), .inr (5, [.int 1, .ref q_10, .int 1]))] := (hD.to hAz).pick (ws' := [((a 201), .inr (5, [.int 1, .ref q_10, .int 1]))]) [7] (by decide) rfl
            have hFc := AnA (ws := [((a 200), f_m a g), ((a 201), .inr (5, [.int 0, .ref (g 100), .int 0])), ((a 202), .inr (5, [.int 0, .ref (g 100), .int 0])), ((a 203), .inr (5, [.int 0, .ref (g 100), .int 0]))]) hS.1
            refine va_callFi (va_runF (As := []) (rest := []) (hK.1.1 5 _ rfl).2 ⟨hx, hb, hml, hown, ht⟩ (k_Jx4a65c_size_8abf5_v1 l D g z0 _ a (a 201) q_10) (va_cwF 0 ht (gF w_356 w_358 w_359 w_323 w_357) rfl rfl rfl (hK.2.2.2.1 _ (List.mem_of_getElem? (i := 0) rfl)) (by decide +kernel) (le2 rfl rfl)) ⟨PP.blind, va_recv hK.1 hP (ci := 5) (q0 := 7) rfl rfl, PP.mk' hK hZ hz hAz hS hPc hDc⟩ rfl rfl hl.1 rfl (lv_room (Nat.le_of_ble_eq_true rfl)) dX15_addSource_143 (le2 rfl rfl)) hS (fun q _ h => hFc q h) hFc (fun r u t H locs ht1 hvm hw hB hz1 hk1 hS => ?_)
            obtain ⟨rfl, hw⟩ := hw
            have hP := ro1 hP hk1
            refine lv_iconst (v := 1) hx hb dX15_addSource_148 (by decide) ?_
            refine lv_isub hx hb dX15_addSource_149 ?_
            refine r_topi (v := 0) (by decide) ?_
            have hP9 := hP.sub (ws' := [((a 200), f_m a g), (q_6, .inl (g 0, 0, .inl (fun _ => 0))), ((a 202), .inr (5, [.int 1, .ref q_7, .int 1])), (q_7, .inl (g 8, 10, .inr (.inr (.inr (.inr (va_up (fun _ => none) (0 : Int32).toNatClampNeg (some (g 1128)))))))), ((a 203), .inr (5, [.int 1, .ref q_9, .int 1])), (q_9, .inl (g 8, 10, .inr (.inr (.inr (.inr (va_up (fun _ => none) (0 : Int32).toNatClampNeg (some (g 1128)))))))), (q_5, .inr (19, [.int 102, .ref q_6, .int 0, .int (-1), .int 0, .int (-1), .int 0, .int 0])), ((a 201), .inr (5, [.int 1, .ref q_10, .int 1])), (q_10, .inl (g 8, 10, .inr (.inr (.inr (.inr (va_up (fun _ => none) (0 : Int32).toNatClampNeg (some q_5)))))))]) [0, 1, 2, 3, 4, 5, 6, 7, 8] rfl
            have hD9 := hD.sub (ws' := [((a 200), f_m a g), (q_6, .inl (g 0, 0, .inl (fun _ => 0))), ((a 202), .inr (5, [.int 1, .ref q_7, .int 1])), (q_7, .inl (g 8, 10, .inr (.inr (.inr (.inr (va_up (fun _ => none) (0 : Int32).toNatClampNeg (some (g 1128)))))))), ((a 203), .inr (5, [.int 1, .ref q_9, .int 1])), (q_9, .inl (g 8, 10, .inr (.inr (.inr (.inr (va_up (fun _ => none) (0 : Int32).toNatClampNeg (some (g 1128)))))))), (q_5, .inr (19, [.int 102, .ref q_6, .int 0, .int (-1), .int 0, .int (-1), .int 0, .int 0])), ((a 201), .inr (5, [.int 1, .ref q_10, .int 1])), (q_10, .inl (g 8, 10, .inr (.inr (.inr (.inr (va_up (fun _ => none) (0 : Int32).toNatClampNeg (some q_5)))))))]) [0, 1, 2, 3, 4, 5, 6, 7, 8] (by decide) rfl
            refine W.widen (k := 5) (n := 38) (Nat.le_of_ble_eq_true rfl) (Nat.le_of_ble_eq_true rfl) ?_
            exact W.iret (v := 0) hx hb hr (fun t ht9 hW9 => ⟨⟨0, (), rfl, ⟨rfl, trivial⟩, ⟨q_6, q_7, q_9, q_5, q_10, (by rw [ht9]; exact hP9), hD9⟩⟩, hS.F ht9⟩) hS.2.2 dX15_addSource_150 hlocks
        · exact absurd c_4 (by decide)
      · exact absurd c_3 (by decide)
  · exact absurd c_1 (by decide)
set_option maxHeartbeats 4000000 in
set_option maxRecDepth 100000 in
theorem k_X15_cell (l : Launch) (D : va_G) (g : Nat → ClassId) (z0 sz : Nat) (a : Nat → Nat) : Met l yX15_cell (.code yX15_cell cX15_cell 1 (some .int) :: TG) (rmk 6 5 38 123) (va_Pc [.ref (a 200)] (PP D g z0 sz [((a 200), f_m a g), ((a 201), .inr (5, [.int 0, .ref (g 100), .int 0])), ((a 202), .inr (5, [.int 0, .ref (g 100), .int 0])), ((a 203), .inr (5, [.int 0, .ref (g 100), .int 0]))])) (va_Qi (fun (r : Int32) (u : Unit) => (r = 0) ∧ True) (fun (u : Unit) (t : State) => va_P D vwCl [((a 200), f_m a g)] t.heap ∧ va_D (va_A [((a 200), f_m a g), ((a 201), .inr (5, [.int 0, .ref (g 100), .int 0])), ((a 202), .inr (5, [.int 0, .ref (g 100), .int 0])), ((a 203), .inr (5, [.int 0, .ref (g 100), .int 0]))] sz) [((a 200), f_m a g)]) (va_A [((a 200), f_m a g), ((a 201), .inr (5, [.int 0, .ref (g 100), .int 0])), ((a 202), .inr (5, [.int 0, .ref (g 100), .int 0])), ((a 203), .inr (5, [.int 0, .ref (g 100), .int 0]))] sz)) 5 38 (va_A [((a 200), f_m a g), ((a 201), .inr (5, [.int 0, .ref (g 100), .int 0])), ((a 202), .inr (5, [.int 0, .ref (g 100), .int 0])), ((a 203), .inr (5, [.int 0, .ref (g 100), .int 0]))] sz) := by
  refine met0 (cc := cX15_cell) (n := 1) (by decide) (Nat.le_of_ble_eq_true rfl) ?_
  intro p e s m args below meth c hx hb hr hml hown ht hlocks hnm hP0 hD0 hK hZ hsz hz ls hl
  subst hsz
  have hA : ∀ q : Nat, s.heap.size ≤ q → va_A [((a 200), f_m a g), ((a 201), .inr (5, [.int 0, .ref (g 100), .int 0])), ((a 202), .inr (5, [.int 0, .ref (g 100), .int 0])), ((a 203), .inr (5, [.int 0, .ref (g 100), .int 0]))] s.heap.size q := Anw
  have hAz : ∀ q, va_A [((a 200), f_m a g), ((a 201), .inr (5, [.int 0, .ref (g 100), .int 0])), ((a 202), .inr (5, [.int 0, .ref (g 100), .int 0])), ((a 203), .inr (5, [.int 0, .ref (g 100), .int 0]))] s.heap.size q → z0 ≤ q := Awz hz hD0
  have hS : va_S (va_A [((a 200), f_m a g), ((a 201), .inr (5, [.int 0, .ref (g 100), .int 0])), ((a 202), .inr (5, [.int 0, .ref (g 100), .int 0])), ((a 203), .inr (5, [.int 0, .ref (g 100), .int 0]))] s.heap.size) s.heap s.heap [] := va_S.rf
  have hD : va_D (va_A [((a 200), f_m a g), ((a 201), .inr (5, [.int 0, .ref (g 100), .int 0])), ((a 202), .inr (5, [.int 0, .ref (g 100), .int 0])), ((a 203), .inr (5, [.int 0, .ref (g 100), .int 0]))] s.heap.size) [((a 200), f_m a g), ((a 201), .inr (5, [.int 0, .ref (g 100), .int 0])), ((a 202), .inr (5, [.int 0, .ref (g 100), .int 0])), ((a 203), .inr (5, [.int 0, .ref (g 100), .int 0]))] := hD0.self
  have hP : va_P D vwCl [((a 200), f_m a g), ((a 201), .inr (5, [.int 0, .ref (g 100), .int 0])), ((a 202), .inr (5, [.int 0, .ref (g 100), .int 0])), ((a 203), .inr (5, [.int 0, .ref (g 100), .int 0]))] s.heap := hP0
  have hl : lv_has ls 1 [(0, .ref (a 200))] := hl
  refine lv_aload_n hx hb dX15_cell_0 rfl (lv_at hl 0 rfl) ?_
  refine lv_bipush (v := 102) hx hb dX15_cell_1 (by decide) ?_
  have hPc : va_P D vwCl [((a 200), f_m a g), ((a 201), .inr (5, [.int 0, .ref (g 100), .int 0])), ((a 202), .inr (5, [.int 0, .ref (g 100), .int 0])), ((a 203), .inr (5, [.int 0, .ref (g 100), .int 0]))] _ := hP.sub (ws' := [((a 200), f_m a g), ((a 201), .inr (5, [.int 0, .ref (g 100), .int 0])), ((a 202), .inr (5, [.int 0, .ref (g 100), .int 0])), ((a 203), .inr (5, [.int 0, .ref (g 100), .int 0]))]) [0, 1, 2, 3] rfl
  have hDc : va_D (fun q => z0 ≤ q) [((a 200), f_m a g), ((a 201), .inr (5, [.int 0, .ref (g 100), .int 0])), ((a 202), .inr (5, [.int 0, .ref (g 100), .int 0])), ((a 203), .inr (5, [.int 0, .ref (g 100), .int 0]))] := (hD.to hAz).pick (ws' := [((a 200), f_m a g), ((a 201), .inr (5, [.int 0, .ref (g 100), .int 0])), ((a 202), .inr (5, [.int 0, .ref (g 100), .int 0])), ((a 203), .inr (5, [.int 0, .ref (g 100), .int 0]))]) [0, 1, 2, 3] (by decide) rfl
  have hFc := va_free (wc := [((a 200), f_m a g), ((a 201), .inr (5, [.int 0, .ref (g 100), .int 0])), ((a 202), .inr (5, [.int 0, .ref (g 100), .int 0])), ((a 203), .inr (5, [.int 0, .ref (g 100), .int 0]))]) hD hS hA [0, 1, 2, 3] rfl
  refine va_calli (va_runV (As := [.int 102]) (rest := []) ⟨hx, hb, hml, hown, ht⟩ (k_X15_addSource l D g z0 _ a) (cwV 1 ht (gV w_477 w_479 w_480 w_334 w_478) rfl rfl rfl (by decide +kernel) (le2 rfl rfl)) ⟨PP.blind, va_recv hK.1 hP (ci := 21) (q0 := 0) rfl rfl, PP.mk' hK hZ hz hAz hS hPc hDc⟩ rfl rfl hl.1 rfl (lv_room (Nat.le_of_ble_eq_true rfl)) dX15_cell_3 (le2 rfl rfl)) hS (fun q _ h => hFc q h) hFc (fun r u t H locs ht1 hvm hw hB hz1 hk1 hS => ?_)
  obtain ⟨rfl, hw⟩ := hw
  obtain ⟨q_1, q_2, q_3, q_4, q_5, hP1, hD1⟩ := hB
  rw [ht1] at hP1
  obtain ⟨hP, hD⟩ := va_join (wr := []) (w1 := [((a 200), f_m a g), (q_1, .inl (g 0, 0, .inl (fun _ => 0))), ((a 202), .inr (5, [.int 1, .ref q_2, .int 1])), (q_2, .inl (g 8, 10, .inr (.inr (.inr (.inr (va_up (fun _ => none) (0 : Int32).toNatClampNeg (some (g 1128)))))))), ((a 203), .inr (5, [.int 1, .ref q_3, .int 1])), (q_3, .inl (g 8, 10, .inr (.inr (.inr (.inr (va_up (fun _ => none) (0 : Int32).toNatClampNeg (some (g 1128)))))))), (q_4, .inr (19, [.int 102, .ref q_1, .int 0, .int (-1), .int 0, .int (-1), .int 0, .int 0])), ((a 201), .inr (5, [.int 1, .ref q_5, .int 1])), (q_5, .inl (g 8, 10, .inr (.inr (.inr (.inr (va_up (fun _ => none) (0 : Int32).toNatClampNeg (some q_4)))))))]) hP hD [0, 1, 2, 3] [] rfl rfl (by decide) (by decide) hk1 hFc hP1 hD1
  have hP : va_P D vwCl [((a 200), f_m a g), (q_1, .inl (g 0, 0, .inl (fun _ => 0))), ((a 202), .inr (5, [.int 1, .ref q_2, .int 1])), (q_2, .inl (g 8, 10, .inr (.inr (.inr (.inr (va_up (fun _ => none) (0 : Int32).toNatClampNeg (some (g 1128)))))))), ((a 203), .inr (5, [.int 1, .ref q_3, .int 1])), (q_3, .inl (g 8, 10, .inr (.inr (.inr (.inr (va_up (fun _ => none) (0 : Int32).toNatClampNeg (some (g 1128)))))))), (q_4, .inr (19, [.int 102, .ref q_1, .int 0, .int (-1), .int 0, .int (-1), .int 0, .int 0])), ((a 201), .inr (5, [.int 1, .ref q_5, .int 1])), (q_5, .inl (g 8, 10, .inr (.inr (.inr (.inr (va_up (fun _ => none) (0 : Int32).toNatClampNeg (some q_4)))))))] H := hP
  have hD : va_D (va_A [((a 200), f_m a g), ((a 201), .inr (5, [.int 0, .ref (g 100), .int 0])), ((a 202), .inr (5, [.int 0, .ref (g 100), .int 0])), ((a 203), .inr (5, [.int 0, .ref (g 100), .int 0]))] s.heap.size) [((a 200), f_m a g), (q_1, .inl (g 0, 0, .inl (fun _ => 0))), ((a 202), .inr (5, [.int 1, .ref q_2, .int 1])), (q_2, .inl (g 8, 10, .inr (.inr (.inr (.inr (va_up (fun _ => none) (0 : Int32).toNatClampNeg (some (g 1128)))))))), ((a 203), .inr (5, [.int 1, .ref q_3, .int 1])), (q_3, .inl (g 8, 10, .inr (.inr (.inr (.inr (va_up (fun _ => none) (0 : Int32).toNatClampNeg (some (g 1128)))))))), (q_4, .inr (19, [.int 102, .ref q_1, .int 0, .int (-1), .int 0, .int (-1), .int 0, .int 0])), ((a 201), .inr (5, [.int 1, .ref q_5, .int 1])), (q_5, .inl (g 8, 10, .inr (.inr (.inr (.inr (va_up (fun _ => none) (0 : Int32).toNatClampNeg (some q_4)))))))] := hD
  have hP9 := hP.sub (ws' := [((a 200), f_m a g)]) [0] rfl
  have hD9 := hD.sub (ws' := [((a 200), f_m a g)]) [0] (by decide) rfl
  refine W.widen (k := 5) (n := 38) (Nat.le_of_ble_eq_true rfl) (Nat.le_of_ble_eq_true rfl) ?_
  exact W.iret (v := 0) hx hb hr (fun t ht9 hW9 => ⟨⟨0, (), rfl, ⟨rfl, trivial⟩, ⟨(by rw [ht9]; exact hP9), hD9⟩⟩, hS.F ht9⟩) hS.2.2 dX15_cell_6 hlocks
set_option maxHeartbeats 4000000 in
set_option maxRecDepth 100000 in
theorem k_X15_isBetween_v3 (l : Launch) (D : va_G) (g : Nat → ClassId) (z0 sz : Nat) (a : Nat → Nat) (p0 : Int32) : Met l yX15_isBetween (.code yX15_isBetween cX15_isBetween 3 (some .boolean) :: TG) (rmk 0 0 0 0) (va_Pc [.int p0, .int 0, .int 65535] (PP D g z0 sz [])) (va_Qi (fun (r : Int32) (u : Unit) => ((r = 0) ∧ ((p0 < 0) ∨ ((¬ p0 < 0) ∧ ((65535 : Int32) < p0)))) ∨ ((r = 1) ∧ ((¬ p0 < 0) ∧ (¬ (65535 : Int32) < p0)))) (fun (_ : Unit) (_ : State) => True) (va_A [] sz)) 0 0 (va_A [] sz) := by
  refine met0 (cc := cX15_isBetween) (n := 3) (by decide) (Nat.le_of_ble_eq_true rfl) ?_
  intro p e s m args below meth c hx hb hr hml hown ht hlocks hnm hP0 hD0 hK hZ hsz hz ls hl
  subst hsz
  have hA : ∀ q : Nat, s.heap.size ≤ q → va_A [] s.heap.size q := Anw
  have hAz : ∀ q, va_A [] s.heap.size q → z0 ≤ q := A0z hz
  have hS : va_S (va_A [] s.heap.size) s.heap s.heap [] := va_S.rf
  have hl : lv_has ls 3 [(0, .int p0), (1, .int 0), (2, .int 65535)] := hl
  refine lv_iload_n hx hb dX15_isBetween_0 rfl (lv_at hl 1 rfl) ?_
  refine lv_iload_n hx hb dX15_isBetween_1 rfl (lv_at hl 0 rfl) ?_
  refine lv_icmp_gt (tgt := 14) hx hb dX15_isBetween_2 (by decide) (fun c_1 => ?_) (fun c_1 => ?_)
  · refine lv_iconst (v := 0) hx hb dX15_isBetween_14 (by decide) ?_
    refine W.widen (k := 0) (n := 0) (Nat.le_of_ble_eq_true rfl) (Nat.le_of_ble_eq_true rfl) ?_
    exact W.zret (v := 0) hx hb hr rfl (fun t ht9 hW9 => ⟨⟨0, (), rfl, (Or.inl ⟨rfl, (Or.inl c_1)⟩), trivial⟩, hS.F ht9⟩) hS.2.2 dX15_isBetween_15 hlocks
  · refine lv_iload_n hx hb dX15_isBetween_5 rfl (lv_at hl 0 rfl) ?_
    refine lv_iload_n hx hb dX15_isBetween_6 rfl (lv_at hl 2 rfl) ?_
    refine lv_icmp_gt (tgt := 14) hx hb dX15_isBetween_7 (by decide) (fun c_2 => ?_) (fun c_2 => ?_)
    · refine lv_iconst (v := 0) hx hb dX15_isBetween_14 (by decide) ?_
      refine W.widen (k := 0) (n := 0) (Nat.le_of_ble_eq_true rfl) (Nat.le_of_ble_eq_true rfl) ?_
      exact W.zret (v := 0) hx hb hr rfl (fun t ht9 hW9 => ⟨⟨0, (), rfl, (Or.inl ⟨rfl, (Or.inr ⟨c_1, c_2⟩)⟩), trivial⟩, hS.F ht9⟩) hS.2.2 dX15_isBetween_15 hlocks
    · refine lv_iconst (v := 1) hx hb dX15_isBetween_10 (by decide) ?_
      refine lv_goto (tgt := 15) hx hb dX15_isBetween_11 (by decide) ?_
      refine W.widen (k := 0) (n := 0) (Nat.le_of_ble_eq_true rfl) (Nat.le_of_ble_eq_true rfl) ?_
      exact W.zret (v := 1) hx hb hr rfl (fun t ht9 hW9 => ⟨⟨1, (), rfl, (Or.inr ⟨rfl, ⟨c_1, c_2⟩⟩), trivial⟩, hS.F ht9⟩) hS.2.2 dX15_isBetween_15 hlocks
set_option maxHeartbeats 4000000 in
set_option maxRecDepth 100000 in
theorem k_X15_isBetween_v4 (l : Launch) (D : va_G) (g : Nat → ClassId) (z0 sz : Nat) (a : Nat → Nat) (p0 : Int32) : Met l yX15_isBetween (.code yX15_isBetween cX15_isBetween 3 (some .boolean) :: TG) (rmk 0 0 0 0) (va_Pc [.int p0, .int 1, .int 200] (PP D g z0 sz [])) (va_Qi (fun (r : Int32) (u : Unit) => ((r = 0) ∧ ((p0 < 1) ∨ ((¬ p0 < 1) ∧ ((200 : Int32) < p0)))) ∨ ((r = 1) ∧ ((¬ p0 < 1) ∧ (¬ (200 : Int32) < p0)))) (fun (_ : Unit) (_ : State) => True) (va_A [] sz)) 0 0 (va_A [] sz) := by
  refine met0 (cc := cX15_isBetween) (n := 3) (by decide) (Nat.le_of_ble_eq_true rfl) ?_
  intro p e s m args below meth c hx hb hr hml hown ht hlocks hnm hP0 hD0 hK hZ hsz hz ls hl
  subst hsz
  have hA : ∀ q : Nat, s.heap.size ≤ q → va_A [] s.heap.size q := Anw
  have hAz : ∀ q, va_A [] s.heap.size q → z0 ≤ q := A0z hz
  have hS : va_S (va_A [] s.heap.size) s.heap s.heap [] := va_S.rf
  have hl : lv_has ls 3 [(0, .int p0), (1, .int 1), (2, .int 200)] := hl
  refine lv_iload_n hx hb dX15_isBetween_0 rfl (lv_at hl 1 rfl) ?_
  refine lv_iload_n hx hb dX15_isBetween_1 rfl (lv_at hl 0 rfl) ?_
  refine lv_icmp_gt (tgt := 14) hx hb dX15_isBetween_2 (by decide) (fun c_1 => ?_) (fun c_1 => ?_)
  · refine lv_iconst (v := 0) hx hb dX15_isBetween_14 (by decide) ?_
    refine W.widen (k := 0) (n := 0) (Nat.le_of_ble_eq_true rfl) (Nat.le_of_ble_eq_true rfl) ?_
    exact W.zret (v := 0) hx hb hr rfl (fun t ht9 hW9 => ⟨⟨0, (), rfl, (Or.inl ⟨rfl, (Or.inl c_1)⟩), trivial⟩, hS.F ht9⟩) hS.2.2 dX15_isBetween_15 hlocks
  · refine lv_iload_n hx hb dX15_isBetween_5 rfl (lv_at hl 0 rfl) ?_
    refine lv_iload_n hx hb dX15_isBetween_6 rfl (lv_at hl 2 rfl) ?_
    refine lv_icmp_gt (tgt := 14) hx hb dX15_isBetween_7 (by decide) (fun c_2 => ?_) (fun c_2 => ?_)
    · refine lv_iconst (v := 0) hx hb dX15_isBetween_14 (by decide) ?_
      refine W.widen (k := 0) (n := 0) (Nat.le_of_ble_eq_true rfl) (Nat.le_of_ble_eq_true rfl) ?_
      exact W.zret (v := 0) hx hb hr rfl (fun t ht9 hW9 => ⟨⟨0, (), rfl, (Or.inl ⟨rfl, (Or.inr ⟨c_1, c_2⟩)⟩), trivial⟩, hS.F ht9⟩) hS.2.2 dX15_isBetween_15 hlocks
    · refine lv_iconst (v := 1) hx hb dX15_isBetween_10 (by decide) ?_
      refine lv_goto (tgt := 15) hx hb dX15_isBetween_11 (by decide) ?_
      refine W.widen (k := 0) (n := 0) (Nat.le_of_ble_eq_true rfl) (Nat.le_of_ble_eq_true rfl) ?_
      exact W.zret (v := 1) hx hb hr rfl (fun t ht9 hW9 => ⟨⟨1, (), rfl, (Or.inr ⟨rfl, ⟨c_1, c_2⟩⟩), trivial⟩, hS.F ht9⟩) hS.2.2 dX15_isBetween_15 hlocks
set_option maxHeartbeats 4000000 in
set_option maxRecDepth 100000 in
theorem k_X15_chance (l : Launch) (D : va_G) (g : Nat → ClassId) (z0 sz : Nat) (a : Nat → Nat) (p0 : Int32) (p1 : Int32) : Met l yX15_chance (.code yX15_chance cX15_chance 9 (some .int) :: TG) (rmk 1 0 0 22) (va_Pc [.ref (a 200), .int p0, .int p1] (PP D g z0 sz [((a 200), f_m a g)])) (va_Qi (fun (r : Int32) (u : Int32) => ((r = 0) ∧ (u = 1) ∧ ((p0 < 0) ∨ ((¬ p0 < 0) ∧ ((65535 : Int32) < p0)) ∨ ((¬ p0 < 0) ∧ (¬ (65535 : Int32) < p0) ∧ (p1 < 1)) ∨ ((¬ p0 < 0) ∧ (¬ (65535 : Int32) < p0) ∧ (¬ p1 < 1) ∧ ((200 : Int32) < p1)))) ∨ ((r = 0) ∧ (u = 2) ∧ ((¬ p0 < 0) ∧ (¬ (65535 : Int32) < p0) ∧ (¬ p1 < 1) ∧ (¬ (200 : Int32) < p1)))) (fun (u : Int32) (t : State) => va_P D vwCl [((a 200), .inr (21, [.int u, .ref (a 201), .ref (a 202), .ref (a 203), .ref (a 204), .ref (a 205), .ref (a 206), .int 0, .int 0, .int 0, .int 0, .ref (a 208), .ref (a 209), .ref (a 210), .ref (a 211), .ref (a 212), .int 4, .int 12, .int (-1), .int 0, .ref (g 200), .ref (a 213), .int 0, .int 97, .ref (a 214), .ref (a 215), .ref (a 207), .null, .int 0]))] t.heap ∧ va_D (va_A [((a 200), f_m a g)] sz) [((a 200), .inr (21, [.int u, .ref (a 201), .ref (a 202), .ref (a 203), .ref (a 204), .ref (a 205), .ref (a 206), .int 0, .int 0, .int 0, .int 0, .ref (a 208), .ref (a 209), .ref (a 210), .ref (a 211), .ref (a 212), .int 4, .int 12, .int (-1), .int 0, .ref (g 200), .ref (a 213), .int 0, .int 97, .ref (a 214), .ref (a 215), .ref (a 207), .null, .int 0]))]) (va_A [((a 200), f_m a g)] sz)) 0 0 (va_A [((a 200), f_m a g)] sz) := by
  refine met0 (cc := cX15_chance) (n := 9) (by decide) (Nat.le_of_ble_eq_true rfl) ?_
  intro p e s m args below meth c hx hb hr hml hown ht hlocks hnm hP0 hD0 hK hZ hsz hz ls hl
  subst hsz
  have hA : ∀ q : Nat, s.heap.size ≤ q → va_A [((a 200), f_m a g)] s.heap.size q := Anw
  have hAz : ∀ q, va_A [((a 200), f_m a g)] s.heap.size q → z0 ≤ q := Awz hz hD0
  have hS : va_S (va_A [((a 200), f_m a g)] s.heap.size) s.heap s.heap [] := va_S.rf
  have hD : va_D (va_A [((a 200), f_m a g)] s.heap.size) [((a 200), f_m a g)] := hD0.self
  have hP : va_P D vwCl [((a 200), f_m a g)] s.heap := hP0
  have hl : lv_has ls 9 [(0, .ref (a 200)), (1, .int p0), (2, .int p1)] := hl
  refine lv_aload_n hx hb dX15_chance_0 rfl (lv_at hl 0 rfl) ?_
  refine lv_iload_n hx hb dX15_chance_1 rfl (lv_at hl 1 rfl) ?_
  refine lv_iconst (v := 0) hx hb dX15_chance_2 (by decide) ?_
  refine lv_ldcw (v := 65535) hx hb hown (ht _ w_481) dX15_chance_3 ?_
  have hPc : va_P D vwCl [] _ := hP.sub (ws' := []) [] rfl
  have hDc : va_D (fun q => z0 ≤ q) [] := (hD.to hAz).pick (ws' := []) [] (by decide) rfl
  have hFc := AnA (ws := [((a 200), f_m a g)]) hS.1
  refine va_calli (va_runS (As := [.int p0, .int 0, .int 65535]) (rest := [.ref (a 200)]) ⟨hx, hb, hml, hown, ht⟩ (k_X15_isBetween_v3 l D g z0 _ a p0) (va_cwS 3 ht (gS w_369 w_371 w_334 w_370) rfl rfl rfl (by decide +kernel) (le2 rfl rfl)) ⟨PP.blind, PP.mk' hK hZ hz hAz hS hPc hDc⟩ rfl rfl hl.1 rfl (lv_room (Nat.le_of_ble_eq_true rfl)) dX15_chance_6 (le2 rfl rfl)) hS (fun q _ h => hFc q h) hFc (fun r u t H locs ht1 hvm hw hB hz1 hk1 hS => ?_)
  rcases hw with hw | hw
  · obtain ⟨rfl, hw⟩ := hw
    rcases hw with hw | hw
    · have c_1 := hw
      have hP := ro1 hP hk1
      refine lv_if_eq (tgt := 23) hx hb dX15_chance_9 (by decide) (fun c_2 => ?_) (fun c_2 => ?_)
      · refine lv_iconst (v := 1) hx hb dX15_chance_23 (by decide) ?_
        refine lv_goto (tgt := 39) hx hb dX15_chance_24 (by decide) ?_
        have hPc : va_P D vwCl [((a 200), f_m a g)] _ := hP.sub (ws' := [((a 200), f_m a g)]) [0] rfl
        have hDc : va_D (fun q => z0 ≤ q) [((a 200), f_m a g)] := (hD.to hAz).pick (ws' := [((a 200), f_m a g)]) [0] (by decide) rfl
        have hFc := va_free (wc := [((a 200), f_m a g)]) hD hS hA [0] rfl
        refine va_calli (va_runV (As := [.int 1]) (rest := []) ⟨hx, hb, hml, hown, ht⟩ (k_X15_isWrong l D g z0 _ a) (cwV 1 ht (gV w_376 w_378 w_379 w_334 w_377) rfl rfl rfl (by decide +kernel) (le2 rfl rfl)) ⟨PP.blind, va_recv hK.1 hP (ci := 21) (q0 := 0) rfl rfl, PP.mk' hK hZ hz hAz hS hPc hDc⟩ rfl rfl hl.1 rfl (lv_room (Nat.le_of_ble_eq_true rfl)) dX15_chance_39 (le2 rfl rfl)) hS (fun q _ h => hFc q h) hFc (fun r u t H locs ht1 hvm hw hB hz1 hk1 hS => ?_)
        obtain ⟨rfl, hw⟩ := hw
        obtain ⟨hP1, hD1⟩ := hB
        rw [ht1] at hP1
        obtain ⟨hP, hD⟩ := va_join (wr := []) (w1 := [((a 200), .inr (21, [.int 1, .ref (a 201), .ref (a 202), .ref (a 203), .ref (a 204), .ref (a 205), .ref (a 206), .int 0, .int 0, .int 0, .int 0, .ref (a 208), .ref (a 209), .ref (a 210), .ref (a 211), .ref (a 212), .int 4, .int 12, .int (-1), .int 0, .ref (g 200), .ref (a 213), .int 0, .int 97, .ref (a 214), .ref (a 215), .ref (a 207), .null, .int 0]))]) hP hD [0] [] rfl rfl (by decide) (by decide) hk1 hFc hP1 hD1
        have hP : va_P D vwCl [((a 200), .inr (21, [.int 1, .ref (a 201), .ref (a 202), .ref (a 203), .ref (a 204), .ref (a 205), .ref (a 206), .int 0, .int 0, .int 0, .int 0, .ref (a 208), .ref (a 209), .ref (a 210), .ref (a 211), .ref (a 212), .int 4, .int 12, .int (-1), .int 0, .ref (g 200), .ref (a 213), .int 0, .int 97, .ref (a 214), .ref (a 215), .ref (a 207), .null, .int 0]))] H := hP
        have hD : va_D (va_A [((a 200), f_m a g)] s.heap.size) [((a 200), .inr (21, [.int 1, .ref (a 201), .ref (a 202), .ref (a 203), .ref (a 204), .ref (a 205), .ref (a 206), .int 0, .int 0, .int 0, .int 0, .ref (a 208), .ref (a 209), .ref (a 210), .ref (a 211), .ref (a 212), .int 4, .int 12, .int (-1), .int 0, .ref (g 200), .ref (a 213), .int 0, .int 97, .ref (a 214), .ref (a 215), .ref (a 207), .null, .int 0]))] := hD
        refine lv_if_eq (tgt := 47) hx hb dX15_chance_42 (by decide) (fun c_3 => ?_) (fun c_3 => ?_)
        · exact absurd c_3 (by decide)
        · refine lv_iconst (v := 0) hx hb dX15_chance_45 (by decide) ?_
          have hP9 := hP.sub (ws' := [((a 200), .inr (21, [.int 1, .ref (a 201), .ref (a 202), .ref (a 203), .ref (a 204), .ref (a 205), .ref (a 206), .int 0, .int 0, .int 0, .int 0, .ref (a 208), .ref (a 209), .ref (a 210), .ref (a 211), .ref (a 212), .int 4, .int 12, .int (-1), .int 0, .ref (g 200), .ref (a 213), .int 0, .int 97, .ref (a 214), .ref (a 215), .ref (a 207), .null, .int 0]))]) [0] rfl
          have hD9 := hD.sub (ws' := [((a 200), .inr (21, [.int 1, .ref (a 201), .ref (a 202), .ref (a 203), .ref (a 204), .ref (a 205), .ref (a 206), .int 0, .int 0, .int 0, .int 0, .ref (a 208), .ref (a 209), .ref (a 210), .ref (a 211), .ref (a 212), .int 4, .int 12, .int (-1), .int 0, .ref (g 200), .ref (a 213), .int 0, .int 97, .ref (a 214), .ref (a 215), .ref (a 207), .null, .int 0]))]) [0] (by decide) rfl
          refine W.widen (k := 0) (n := 0) (Nat.le_of_ble_eq_true rfl) (Nat.le_of_ble_eq_true rfl) ?_
          exact W.iret (v := 0) hx hb hr (fun t ht9 hW9 => ⟨⟨0, 1, rfl, (Or.inl ⟨rfl, rfl, (Or.inl c_1)⟩), ⟨(by rw [ht9]; exact hP9), hD9⟩⟩, hS.F ht9⟩) hS.2.2 dX15_chance_46 hlocks
      · exact absurd c_2 (by decide)
    · obtain ⟨c_4, c_5⟩ := hw
      have hP := ro1 hP hk1
      refine lv_if_eq (tgt := 23) hx hb dX15_chance_9 (by decide) (fun c_6 => ?_) (fun c_6 => ?_)
      · refine lv_iconst (v := 1) hx hb dX15_chance_23 (by decide) ?_
        refine lv_goto (tgt := 39) hx hb dX15_chance_24 (by decide) ?_
        have hPc : va_P D vwCl [((a 200), f_m a g)] _ := hP.sub (ws' := [((a 200), f_m a g)]) [0] rfl
        have hDc : va_D (fun q => z0 ≤ q) [((a 200), f_m a g)] := (hD.to hAz).pick (ws' := [((a 200), f_m a g)]) [0] (by decide) rfl
        have hFc := va_free (wc := [((a 200), f_m a g)]) hD hS hA [0] rfl
        refine va_calli (va_runV (As := [.int 1]) (rest := []) ⟨hx, hb, hml, hown, ht⟩ (k_X15_isWrong l D g z0 _ a) (cwV 1 ht (gV w_376 w_378 w_379 w_334 w_377) rfl rfl rfl (by decide +kernel) (le2 rfl rfl)) ⟨PP.blind, va_recv hK.1 hP (ci := 21) (q0 := 0) rfl rfl, PP.mk' hK hZ hz hAz hS hPc hDc⟩ rfl rfl hl.1 rfl (lv_room (Nat.le_of_ble_eq_true rfl)) dX15_chance_39 (le2 rfl rfl)) hS (fun q _ h => hFc q h) hFc (fun r u t H locs ht1 hvm hw hB hz1 hk1 hS => ?_)
        obtain ⟨rfl, hw⟩ := hw
        obtain ⟨hP1, hD1⟩ := hB
        rw [ht1] at hP1
        obtain ⟨hP, hD⟩ := va_join (wr := []) (w1 := [((a 200), .inr (21, [.int 1, .ref (a 201), .ref (a 202), .ref (a 203), .ref (a 204), .ref (a 205), .ref (a 206), .int 0, .int 0, .int 0, .int 0, .ref (a 208), .ref (a 209), .ref (a 210), .ref (a 211), .ref (a 212), .int 4, .int 12, .int (-1), .int 0, .ref (g 200), .ref (a 213), .int 0, .int 97, .ref (a 214), .ref (a 215), .ref (a 207), .null, .int 0]))]) hP hD [0] [] rfl rfl (by decide) (by decide) hk1 hFc hP1 hD1
        have hP : va_P D vwCl [((a 200), .inr (21, [.int 1, .ref (a 201), .ref (a 202), .ref (a 203), .ref (a 204), .ref (a 205), .ref (a 206), .int 0, .int 0, .int 0, .int 0, .ref (a 208), .ref (a 209), .ref (a 210), .ref (a 211), .ref (a 212), .int 4, .int 12, .int (-1), .int 0, .ref (g 200), .ref (a 213), .int 0, .int 97, .ref (a 214), .ref (a 215), .ref (a 207), .null, .int 0]))] H := hP
        have hD : va_D (va_A [((a 200), f_m a g)] s.heap.size) [((a 200), .inr (21, [.int 1, .ref (a 201), .ref (a 202), .ref (a 203), .ref (a 204), .ref (a 205), .ref (a 206), .int 0, .int 0, .int 0, .int 0, .ref (a 208), .ref (a 209), .ref (a 210), .ref (a 211), .ref (a 212), .int 4, .int 12, .int (-1), .int 0, .ref (g 200), .ref (a 213), .int 0, .int 97, .ref (a 214), .ref (a 215), .ref (a 207), .null, .int 0]))] := hD
        refine lv_if_eq (tgt := 47) hx hb dX15_chance_42 (by decide) (fun c_7 => ?_) (fun c_7 => ?_)
        · exact absurd c_7 (by decide)
        · refine lv_iconst (v := 0) hx hb dX15_chance_45 (by decide) ?_
          have hP9 := hP.sub (ws' := [((a 200), .inr (21, [.int 1, .ref (a 201), .ref (a 202), .ref (a 203), .ref (a 204), .ref (a 205), .ref (a 206), .int 0, .int 0, .int 0, .int 0, .ref (a 208), .ref (a 209), .ref (a 210), .ref (a 211), .ref (a 212), .int 4, .int 12, .int (-1), .int 0, .ref (g 200), .ref (a 213), .int 0, .int 97, .ref (a 214), .ref (a 215), .ref (a 207), .null, .int 0]))]) [0] rfl
          have hD9 := hD.sub (ws' := [((a 200), .inr (21, [.int 1, .ref (a 201), .ref (a 202), .ref (a 203), .ref (a 204), .ref (a 205), .ref (a 206), .int 0, .int 0, .int 0, .int 0, .ref (a 208), .ref (a 209), .ref (a 210), .ref (a 211), .ref (a 212), .int 4, .int 12, .int (-1), .int 0, .ref (g 200), .ref (a 213), .int 0, .int 97, .ref (a 214), .ref (a 215), .ref (a 207), .null, .int 0]))]) [0] (by decide) rfl
          refine W.widen (k := 0) (n := 0) (Nat.le_of_ble_eq_true rfl) (Nat.le_of_ble_eq_true rfl) ?_
          exact W.iret (v := 0) hx hb hr (fun t ht9 hW9 => ⟨⟨0, 1, rfl, (Or.inl ⟨rfl, rfl, (Or.inr (Or.inl ⟨c_4, c_5⟩))⟩), ⟨(by rw [ht9]; exact hP9), hD9⟩⟩, hS.F ht9⟩) hS.2.2 dX15_chance_46 hlocks
      · exact absurd c_6 (by decide)
  · obtain ⟨rfl, hw⟩ := hw
    obtain ⟨c_8, c_9⟩ := hw
    have hP := ro1 hP hk1
    refine lv_if_eq (tgt := 23) hx hb dX15_chance_9 (by decide) (fun c_10 => ?_) (fun c_10 => ?_)
    · exact absurd c_10 (by decide)
    · refine lv_iload_n hx hb dX15_chance_12 rfl (lv_at hl 2 rfl) ?_
      refine lv_iconst (v := 1) hx hb dX15_chance_13 (by decide) ?_
      refine lv_sipush (v := 200) hx hb dX15_chance_14 (by decide) ?_
      have hPc : va_P D vwCl [] _ := hP.sub (ws' := []) [] rfl
      have hDc : va_D (fun q => z0 ≤ q) [] := (hD.to hAz).pick (ws' := []) [] (by decide) rfl
      have hFc := AnA (ws := [((a 200), f_m a g)]) hS.1
      refine va_calli (va_runS (As := [.int p1, .int 1, .int 200]) (rest := [.ref (a 200)]) ⟨hx, hb, hml, hown, ht⟩ (k_X15_isBetween_v4 l D g z0 _ a p1) (va_cwS 3 ht (gS w_369 w_371 w_334 w_370) rfl rfl rfl (by decide +kernel) (le2 rfl rfl)) ⟨PP.blind, PP.mk' hK hZ hz hAz hS hPc hDc⟩ rfl rfl hl.1 rfl (lv_room (Nat.le_of_ble_eq_true rfl)) dX15_chance_17 (le2 rfl rfl)) hS (fun q _ h => hFc q h) hFc (fun r u t H locs ht1 hvm hw hB hz1 hk1 hS => ?_)
      rcases hw with hw | hw
      · obtain ⟨rfl, hw⟩ := hw
        rcases hw with hw | hw
        · have c_11 := hw
          have hP := ro1 hP hk1
          refine lv_if_ne (tgt := 27) hx hb dX15_chance_20 (by decide) (fun c_12 => ?_) (fun c_12 => ?_)
          · exact absurd c_12 (by decide)
          · refine lv_iconst (v := 1) hx hb dX15_chance_23 (by decide) ?_
            refine lv_goto (tgt := 39) hx hb dX15_chance_24 (by decide) ?_
            have hPc : va_P D vwCl [((a 200), f_m a g)] _ := hP.sub (ws' := [((a 200), f_m a g)]) [0] rfl
            have hDc : va_D (fun q => z0 ≤ q) [((a 200), f_m a g)] := (hD.to hAz).pick (ws' := [((a 200), f_m a g)]) [0] (by decide) rfl
            have hFc := va_free (wc := [((a 200), f_m a g)]) hD hS hA [0] rfl
            refine va_calli (va_runV (As := [.int 1]) (rest := []) ⟨hx, hb, hml, hown, ht⟩ (k_X15_isWrong l D g z0 _ a) (cwV 1 ht (gV w_376 w_378 w_379 w_334 w_377) rfl rfl rfl (by decide +kernel) (le2 rfl rfl)) ⟨PP.blind, va_recv hK.1 hP (ci := 21) (q0 := 0) rfl rfl, PP.mk' hK hZ hz hAz hS hPc hDc⟩ rfl rfl hl.1 rfl (lv_room (Nat.le_of_ble_eq_true rfl)) dX15_chance_39 (le2 rfl rfl)) hS (fun q _ h => hFc q h) hFc (fun r u t H locs ht1 hvm hw hB hz1 hk1 hS => ?_)
            obtain ⟨rfl, hw⟩ := hw
            obtain ⟨hP1, hD1⟩ := hB
            rw [ht1] at hP1
            obtain ⟨hP, hD⟩ := va_join (wr := []) (w1 := [((a 200), .inr (21, [.int 1, .ref (a 201), .ref (a 202), .ref (a 203), .ref (a 204), .ref (a 205), .ref (a 206), .int 0, .int 0, .int 0, .int 0, .ref (a 208), .ref (a 209), .ref (a 210), .ref (a 211), .ref (a 212), .int 4, .int 12, .int (-1), .int 0, .ref (g 200), .ref (a 213), .int 0, .int 97, .ref (a 214), .ref (a 215), .ref (a 207), .null, .int 0]))]) hP hD [0] [] rfl rfl (by decide) (by decide) hk1 hFc hP1 hD1
            have hP : va_P D vwCl [((a 200), .inr (21, [.int 1, .ref (a 201), .ref (a 202), .ref (a 203), .ref (a 204), .ref (a 205), .ref (a 206), .int 0, .int 0, .int 0, .int 0, .ref (a 208), .ref (a 209), .ref (a 210), .ref (a 211), .ref (a 212), .int 4, .int 12, .int (-1), .int 0, .ref (g 200), .ref (a 213), .int 0, .int 97, .ref (a 214), .ref (a 215), .ref (a 207), .null, .int 0]))] H := hP
            have hD : va_D (va_A [((a 200), f_m a g)] s.heap.size) [((a 200), .inr (21, [.int 1, .ref (a 201), .ref (a 202), .ref (a 203), .ref (a 204), .ref (a 205), .ref (a 206), .int 0, .int 0, .int 0, .int 0, .ref (a 208), .ref (a 209), .ref (a 210), .ref (a 211), .ref (a 212), .int 4, .int 12, .int (-1), .int 0, .ref (g 200), .ref (a 213), .int 0, .int 97, .ref (a 214), .ref (a 215), .ref (a 207), .null, .int 0]))] := hD
            refine lv_if_eq (tgt := 47) hx hb dX15_chance_42 (by decide) (fun c_13 => ?_) (fun c_13 => ?_)
            · exact absurd c_13 (by decide)
            · refine lv_iconst (v := 0) hx hb dX15_chance_45 (by decide) ?_
              have hP9 := hP.sub (ws' := [((a 200), .inr (21, [.int 1, .ref (a 201), .ref (a 202), .ref (a 203), .ref (a 204), .ref (a 205), .ref (a 206), .int 0, .int 0, .int 0, .int 0, .ref (a 208), .ref (a 209), .ref (a 210), .ref (a 211), .ref (a 212), .int 4, .int 12, .int (-1), .int 0, .ref (g 200), .ref (a 213), .int 0, .int 97, .ref (a 214), .ref (a 215), .ref (a 207), .null, .int 0]))]) [0] rfl
              have hD9 := hD.sub (ws' := [((a 200), .inr (21, [.int 1, .ref (a 201), .ref (a 202), .ref (a 203), .ref (a 204), .ref (a 205), .ref (a 206), .int 0, .int 0, .int 0, .int 0, .ref (a 208), .ref (a 209), .ref (a 210), .ref (a 211), .ref (a 212), .int 4, .int 12, .int (-1), .int 0, .ref (g 200), .ref (a 213), .int 0, .int 97, .ref (a 214), .ref (a 215), .ref (a 207), .null, .int 0]))]) [0] (by decide) rfl
              refine W.widen (k := 0) (n := 0) (Nat.le_of_ble_eq_true rfl) (Nat.le_of_ble_eq_true rfl) ?_
              exact W.iret (v := 0) hx hb hr (fun t ht9 hW9 => ⟨⟨0, 1, rfl, (Or.inl ⟨rfl, rfl, (Or.inr (Or.inr (Or.inl ⟨c_8, c_9, c_11⟩)))⟩), ⟨(by rw [ht9]; exact hP9), hD9⟩⟩, hS.F ht9⟩) hS.2.2 dX15_chance_46 hlocks
        · obtain ⟨c_14, c_15⟩ := hw
          have hP := ro1 hP hk1
          refine lv_if_ne (tgt := 27) hx hb dX15_chance_20 (by decide) (fun c_16 => ?_) (fun c_16 => ?_)
          · exact absurd c_16 (by decide)
          · refine lv_iconst (v := 1) hx hb dX15_chance_23 (by decide) ?_
            refine lv_goto (tgt := 39) hx hb dX15_chance_24 (by decide) ?_
            have hPc : va_P D vwCl [((a 200), f_m a g)] _ := hP.sub (ws' := [((a 200), f_m a g)]) [0] rfl
            have hDc : va_D (fun q => z0 ≤ q) [((a 200), f_m a g)] := (hD.to hAz).pick (ws' := [((a 200), f_m a g)]) [0] (by decide) rfl
            have hFc := va_free (wc := [((a 200), f_m a g)]) hD hS hA [0] rfl
            refine va_calli (va_runV (As := [.int 1]) (rest := []) ⟨hx, hb, hml, hown, ht⟩ (k_X15_isWrong l D g z0 _ a) (cwV 1 ht (gV w_376 w_378 w_379 w_334 w_377) rfl rfl rfl (by decide +kernel) (le2 rfl rfl)) ⟨PP.blind, va_recv hK.1 hP (ci := 21) (q0 := 0) rfl rfl, PP.mk' hK hZ hz hAz hS hPc hDc⟩ rfl rfl hl.1 rfl (lv_room (Nat.le_of_ble_eq_true rfl)) dX15_chance_39 (le2 rfl rfl)) hS (fun q _ h => hFc q h) hFc (fun r u t H locs ht1 hvm hw hB hz1 hk1 hS => ?_)
            obtain ⟨rfl, hw⟩ := hw
            obtain ⟨hP1, hD1⟩ := hB
            rw [ht1] at hP1
            obtain ⟨hP, hD⟩ := va_join (wr := []) (w1 := [((a 200), .inr (21, [.int 1, .ref (a 201), .ref (a 202), .ref (a 203), .ref (a 204), .ref (a 205), .ref (a 206), .int 0, .int 0, .int 0, .int 0, .ref (a 208), .ref (a 209), .ref (a 210), .ref (a 211), .ref (a 212), .int 4, .int 12, .int (-1), .int 0, .ref (g 200), .ref (a 213), .int 0, .int 97, .ref (a 214), .ref (a 215), .ref (a 207), .null, .int 0]))]) hP hD [0] [] rfl rfl (by decide) (by decide) hk1 hFc hP1 hD1
            have hP : va_P D vwCl [((a 200), .inr (21, [.int 1, .ref (a 201), .ref (a 202), .ref (a 203), .ref (a 204), .ref (a 205), .ref (a 206), .int 0, .int 0, .int 0, .int 0, .ref (a 208), .ref (a 209), .ref (a 210), .ref (a 211), .ref (a 212), .int 4, .int 12, .int (-1), .int 0, .ref (g 200), .ref (a 213), .int 0, .int 97, .ref (a 214), .ref (a 215), .ref (a 207), .null, .int 0]))] H := hP
            have hD : va_D (va_A [((a 200), f_m a g)] s.heap.size) [((a 200), .inr (21, [.int 1, .ref (a 201), .ref (a 202), .ref (a 203), .ref (a 204), .ref (a 205), .ref (a 206), .int 0, .int 0, .int 0, .int 0, .ref (a 208), .ref (a 209), .ref (a 210), .ref (a 211), .ref (a 212), .int 4, .int 12, .int (-1), .int 0, .ref (g 200), .ref (a 213), .int 0, .int 97, .ref (a 214), .ref (a 215), .ref (a 207), .null, .int 0]))] := hD
            refine lv_if_eq (tgt := 47) hx hb dX15_chance_42 (by decide) (fun c_17 => ?_) (fun c_17 => ?_)
            · exact absurd c_17 (by decide)
            · refine lv_iconst (v := 0) hx hb dX15_chance_45 (by decide) ?_
              have hP9 := hP.sub (ws' := [((a 200), .inr (21, [.int 1, .ref (a 201), .ref (a 202), .ref (a 203), .ref (a 204), .ref (a 205), .ref (a 206), .int 0, .int 0, .int 0, .int 0, .ref (a 208), .ref (a 209), .ref (a 210), .ref (a 211), .ref (a 212), .int 4, .int 12, .int (-1), .int 0, .ref (g 200), .ref (a 213), .int 0, .int 97, .ref (a 214), .ref (a 215), .ref (a 207), .null, .int 0]))]) [0] rfl
              have hD9 := hD.sub (ws' := [((a 200), .inr (21, [.int 1, .ref (a 201), .ref (a 202), .ref (a 203), .ref (a 204), .ref (a 205), .ref (a 206), .int 0, .int 0, .int 0, .int 0, .ref (a 208), .ref (a 209), .ref (a 210), .ref (a 211), .ref (a 212), .int 4, .int 12, .int (-1), .int 0, .ref (g 200), .ref (a 213), .int 0, .int 97, .ref (a 214), .ref (a 215), .ref (a 207), .null, .int 0]))]) [0] (by decide) rfl
              refine W.widen (k := 0) (n := 0) (Nat.le_of_ble_eq_true rfl) (Nat.le_of_ble_eq_true rfl) ?_
              exact W.iret (v := 0) hx hb hr (fun t ht9 hW9 => ⟨⟨0, 1, rfl, (Or.inl ⟨rfl, rfl, (Or.inr (Or.inr (Or.inr ⟨c_8, c_9, c_14, c_15⟩)))⟩), ⟨(by rw [ht9]; exact hP9), hD9⟩⟩, hS.F ht9⟩) hS.2.2 dX15_chance_46 hlocks
      · obtain ⟨rfl, hw⟩ := hw
        obtain ⟨c_18, c_19⟩ := hw
        have hP := ro1 hP hk1
        refine lv_if_ne (tgt := 27) hx hb dX15_chance_20 (by decide) (fun c_20 => ?_) (fun c_20 => ?_)
        · refine lv_aload_n hx hb dX15_chance_27 rfl (lv_at hl 0 rfl) ?_
          refine va_get (D := D) (ci := 21) (v := .int 0) (C := RX15) (T := TX15) (N := 29) hx hb ht in_X15 hown hK.1 hP 0 rfl rfl 7 (by decide) (ht _ w_383) (fun _ h9 => h9) rfl dX15_chance_28 ?_
          refine lv_if_ne (tgt := 38) hx hb dX15_chance_31 (by decide) (fun c_21 => ?_) (fun c_21 => ?_)
          · exact absurd c_21 (by decide)
          · refine lv_iconst (v := 2) hx hb dX15_chance_34 (by decide) ?_
            refine lv_goto (tgt := 39) hx hb dX15_chance_35 (by decide) ?_
            have hPc : va_P D vwCl [((a 200), f_m a g)] _ := hP.sub (ws' := [((a 200), f_m a g)]) [0] rfl
            have hDc : va_D (fun q => z0 ≤ q) [((a 200), f_m a g)] := (hD.to hAz).pick (ws' := [((a 200), f_m a g)]) [0] (by decide) rfl
            have hFc := va_free (wc := [((a 200), f_m a g)]) hD hS hA [0] rfl
            refine va_calli (va_runV (As := [.int 2]) (rest := []) ⟨hx, hb, hml, hown, ht⟩ (k_X15_isWrong_v2 l D g z0 _ a) (cwV 1 ht (gV w_376 w_378 w_379 w_334 w_377) rfl rfl rfl (by decide +kernel) (le2 rfl rfl)) ⟨PP.blind, va_recv hK.1 hP (ci := 21) (q0 := 0) rfl rfl, PP.mk' hK hZ hz hAz hS hPc hDc⟩ rfl rfl hl.1 rfl (lv_room (Nat.le_of_ble_eq_true rfl)) dX15_chance_39 (le2 rfl rfl)) hS (fun q _ h => hFc q h) hFc (fun r u t H locs ht1 hvm hw hB hz1 hk1 hS => ?_)
            obtain ⟨rfl, hw⟩ := hw
            obtain ⟨hP1, hD1⟩ := hB
            rw [ht1] at hP1
            obtain ⟨hP, hD⟩ := va_join (wr := []) (w1 := [((a 200), .inr (21, [.int 2, .ref (a 201), .ref (a 202), .ref (a 203), .ref (a 204), .ref (a 205), .ref (a 206), .int 0, .int 0, .int 0, .int 0, .ref (a 208), .ref (a 209), .ref (a 210), .ref (a 211), .ref (a 212), .int 4, .int 12, .int (-1), .int 0, .ref (g 200), .ref (a 213), .int 0, .int 97, .ref (a 214), .ref (a 215), .ref (a 207), .null, .int 0]))]) hP hD [0] [] rfl rfl (by decide) (by decide) hk1 hFc hP1 hD1
            have hP : va_P D vwCl [((a 200), .inr (21, [.int 2, .ref (a 201), .ref (a 202), .ref (a 203), .ref (a 204), .ref (a 205), .ref (a 206), .int 0, .int 0, .int 0, .int 0, .ref (a 208), .ref (a 209), .ref (a 210), .ref (a 211), .ref (a 212), .int 4, .int 12, .int (-1), .int 0, .ref (g 200), .ref (a 213), .int 0, .int 97, .ref (a 214), .ref (a 215), .ref (a 207), .null, .int 0]))] H := hP
            have hD : va_D (va_A [((a 200), f_m a g)] s.heap.size) [((a 200), .inr (21, [.int 2, .ref (a 201), .ref (a 202), .ref (a 203), .ref (a 204), .ref (a 205), .ref (a 206), .int 0, .int 0, .int 0, .int 0, .ref (a 208), .ref (a 209), .ref (a 210), .ref (a 211), .ref (a 212), .int 4, .int 12, .int (-1), .int 0, .ref (g 200), .ref (a 213), .int 0, .int 97, .ref (a 214), .ref (a 215), .ref (a 207), .null, .int 0]))] := hD
            refine lv_if_eq (tgt := 47) hx hb dX15_chance_42 (by decide) (fun c_22 => ?_) (fun c_22 => ?_)
            · exact absurd c_22 (by decide)
            · refine lv_iconst (v := 0) hx hb dX15_chance_45 (by decide) ?_
              have hP9 := hP.sub (ws' := [((a 200), .inr (21, [.int 2, .ref (a 201), .ref (a 202), .ref (a 203), .ref (a 204), .ref (a 205), .ref (a 206), .int 0, .int 0, .int 0, .int 0, .ref (a 208), .ref (a 209), .ref (a 210), .ref (a 211), .ref (a 212), .int 4, .int 12, .int (-1), .int 0, .ref (g 200), .ref (a 213), .int 0, .int 97, .ref (a 214), .ref (a 215), .ref (a 207), .null, .int 0]))]) [0] rfl
              have hD9 := hD.sub (ws' := [((a 200), .inr (21, [.int 2, .ref (a 201), .ref (a 202), .ref (a 203), .ref (a 204), .ref (a 205), .ref (a 206), .int 0, .int 0, .int 0, .int 0, .ref (a 208), .ref (a 209), .ref (a 210), .ref (a 211), .ref (a 212), .int 4, .int 12, .int (-1), .int 0, .ref (g 200), .ref (a 213), .int 0, .int 97, .ref (a 214), .ref (a 215), .ref (a 207), .null, .int 0]))]) [0] (by decide) rfl
              refine W.widen (k := 0) (n := 0) (Nat.le_of_ble_eq_true rfl) (Nat.le_of_ble_eq_true rfl) ?_
              exact W.iret (v := 0) hx hb hr (fun t ht9 hW9 => ⟨⟨0, 2, rfl, (Or.inr ⟨rfl, rfl, ⟨c_8, c_9, c_18, c_19⟩⟩), ⟨(by rw [ht9]; exact hP9), hD9⟩⟩, hS.F ht9⟩) hS.2.2 dX15_chance_46 hlocks
        · exact absurd c_20 (by decide)
set_option maxHeartbeats 4000000 in
set_option maxRecDepth 100000 in
theorem k_X15_classes (l : Launch) (D : va_G) (g : Nat → ClassId) (z0 sz : Nat) (a : Nat → Nat) : Met l yX15_classes (.code yX15_classes cX15_classes 1 (some .int) :: TG) (rmk 5 2 3 95) (va_Pc [.ref (a 200)] (PP D g z0 sz [((a 200), f_m a g), ((a 201), .inr (5, [.int 0, .ref (g 100), .int 0]))])) (va_Qi (fun (r : Int32) (u : Unit) => (r = 0) ∧ True) (fun (u : Unit) (t : State) => va_P D vwCl [((a 200), f_m a g)] t.heap ∧ va_D (va_A [((a 200), f_m a g), ((a 201), .inr (5, [.int 0, .ref (g 100), .int 0]))] sz) [((a 200), f_m a g)]) (va_A [((a 200), f_m a g), ((a 201), .inr (5, [.int 0, .ref (g 100), .int 0]))] sz)) 2 3 (va_A [((a 200), f_m a g), ((a 201), .inr (5, [.int 0, .ref (g 100), .int 0]))] sz) := by
  refine met0 (cc := cX15_classes) (n := 1) (by decide) (Nat.le_of_ble_eq_true rfl) ?_
  intro p e s m args below meth c hx hb hr hml hown ht hlocks hnm hP0 hD0 hK hZ hsz hz ls hl
  subst hsz
  have hA : ∀ q : Nat, s.heap.size ≤ q → va_A [((a 200), f_m a g), ((a 201), .inr (5, [.int 0, .ref (g 100), .int 0]))] s.heap.size q := Anw
  have hAz : ∀ q, va_A [((a 200), f_m a g), ((a 201), .inr (5, [.int 0, .ref (g 100), .int 0]))] s.heap.size q → z0 ≤ q := Awz hz hD0
  have hS : va_S (va_A [((a 200), f_m a g), ((a 201), .inr (5, [.int 0, .ref (g 100), .int 0]))] s.heap.size) s.heap s.heap [] := va_S.rf
  have hD : va_D (va_A [((a 200), f_m a g), ((a 201), .inr (5, [.int 0, .ref (g 100), .int 0]))] s.heap.size) [((a 200), f_m a g), ((a 201), .inr (5, [.int 0, .ref (g 100), .int 0]))] := hD0.self
  have hP : va_P D vwCl [((a 200), f_m a g), ((a 201), .inr (5, [.int 0, .ref (g 100), .int 0]))] s.heap := hP0
  have hl : lv_has ls 1 [(0, .ref (a 200))] := hl
  refine lv_aload_n hx hb dX15_classes_0 rfl (lv_at hl 0 rfl) ?_
  refine lv_iconst (v := 0) hx hb dX15_classes_1 (by decide) ?_
  refine va_put (D := D) (ci := 21) (v := .int 0) (ty := .int) (C := RX15) (T := TX15) (N := 29) hx hb ht in_X15 tyX15 tyX15_ok nmX15 hown hK.1 hP hD hS 0 rfl rfl 0 (by decide) (ht _ w_303) (fun _ h9 => h9) rfl (by decide +kernel) rfl rfl (Nat.le_of_ble_eq_true rfl) dX15_classes_2 (fun H locs hP hD hS => ?_)
  have hP : va_P D vwCl [((a 200), .inr (21, [.int 0, .ref (a 201), .ref (a 202), .ref (a 203), .ref (a 204), .ref (a 205), .ref (a 206), .int 0, .int 0, .int 0, .int 0, .ref (a 208), .ref (a 209), .ref (a 210), .ref (a 211), .ref (a 212), .int 4, .int 12, .int (-1), .int 0, .ref (g 200), .ref (a 213), .int 0, .int 97, .ref (a 214), .ref (a 215), .ref (a 207), .null, .int 0])), ((a 201), .inr (5, [.int 0, .ref (g 100), .int 0]))] H := hP
  have hD : va_D (va_A [((a 200), f_m a g), ((a 201), .inr (5, [.int 0, .ref (g 100), .int 0]))] s.heap.size) [((a 200), .inr (21, [.int 0, .ref (a 201), .ref (a 202), .ref (a 203), .ref (a 204), .ref (a 205), .ref (a 206), .int 0, .int 0, .int 0, .int 0, .ref (a 208), .ref (a 209), .ref (a 210), .ref (a 211), .ref (a 212), .int 4, .int 12, .int (-1), .int 0, .ref (g 200), .ref (a 213), .int 0, .int 97, .ref (a 214), .ref (a 215), .ref (a 207), .null, .int 0])), ((a 201), .inr (5, [.int 0, .ref (g 100), .int 0]))] := hD
  refine lv_aload_n hx hb dX15_classes_5 rfl (lv_at hl 0 rfl) ?_
  have hPc : va_P D vwCl [((a 200), .inr (21, [.int 0, .ref (a 201), .ref (a 202), .ref (a 203), .ref (a 204), .ref (a 205), .ref (a 206), .int 0, .int 0, .int 0, .int 0, .ref (a 208), .ref (a 209), .ref (a 210), .ref (a 211), .ref (a 212), .int 4, .int 12, .int (-1), .int 0, .ref (g 200), .ref (a 213), .int 0, .int 97, .ref (a 214), .ref (a 215), .ref (a 207), .null, .int 0])), ((a 201), .inr (5, [.int 0, .ref (g 100), .int 0]))] _ := hP.sub (ws' := [((a 200), .inr (21, [.int 0, .ref (a 201), .ref (a 202), .ref (a 203), .ref (a 204), .ref (a 205), .ref (a 206), .int 0, .int 0, .int 0, .int 0, .ref (a 208), .ref (a 209), .ref (a 210), .ref (a 211), .ref (a 212), .int 4, .int 12, .int (-1), .int 0, .ref (g 200), .ref (a 213), .int 0, .int 97, .ref (a 214), .ref (a 215), .ref (a 207), .null, .int 0])), ((a 201), .inr (5, [.int 0, .ref (g 100), .int 0]))]) [0, 1] rfl
  have hDc : va_D (fun q => z0 ≤ q) [((a 200), .inr (21, [.int 0, .ref (a 201), .ref (a 202), .ref (a 203), .ref (a 204), .ref (a 205), .ref (a 206), .int 0, .int 0, .int 0, .int 0, .ref (a 208), .ref (a 209), .ref (a 210), .ref (a 211), .ref (a 212), .int 4, .int 12, .int (-1), .int 0, .ref (g 200), .ref (a 213), .int 0, .int 97, .ref (a 214), .ref (a 215), .ref (a 207), .null, .int 0])), ((a 201), .inr (5, [.int 0, .ref (g 100), .int 0]))] := (hD.to hAz).pick (ws' := [((a 200), .inr (21, [.int 0, .ref (a 201), .ref (a 202), .ref (a 203), .ref (a 204), .ref (a 205), .ref (a 206), .int 0, .int 0, .int 0, .int 0, .ref (a 208), .ref (a 209), .ref (a 210), .ref (a 211), .ref (a 212), .int 4, .int 12, .int (-1), .int 0, .ref (g 200), .ref (a 213), .int 0, .int 97, .ref (a 214), .ref (a 215), .ref (a 207), .null, .int 0])), ((a 201), .inr (5, [.int 0, .ref (g 100), .int 0]))]) [0, 1] (by decide) rfl
  have hFc := va_free (wc := [((a 200), .inr (21, [.int 0, .ref (a 201), .ref (a 202), .ref (a 203), .ref (a 204), .ref (a 205), .ref (a 206), .int 0, .int 0, .int 0, .int 0, .ref (a 208), .ref (a 209), .ref (a 210), .ref (a 211), .ref (a 212), .int 4, .int 12, .int (-1), .int 0, .ref (g 200), .ref (a 213), .int 0, .int 97, .ref (a 214), .ref (a 215), .ref (a 207), .null, .int 0])), ((a 201), .inr (5, [.int 0, .ref (g 100), .int 0]))]) hD hS hA [0, 1] rfl
  refine va_callr (va_runV (As := []) (rest := []) ⟨hx, hb, hml, hown, ht⟩ (k_X15_allClasses l D g z0 _ a) (cwV 0 ht (gV w_364 w_366 w_367 w_334 w_365) rfl rfl rfl (by decide +kernel) (le2 rfl rfl)) ⟨PP.blind, va_recv hK.1 hP (ci := 21) (q0 := 0) rfl rfl, PP.mk' hK hZ hz hAz hS hPc hDc⟩ rfl rfl hl.1 rfl (lv_room (Nat.le_of_ble_eq_true rfl)) dX15_classes_6 (le2 rfl rfl)) hS (fun q _ h => hFc q h) hFc (fun u ra t H locs ht1 hvm hw hB hz1 hk1 hS => ?_)
  obtain ⟨q_1, hr9, hP1, hD1⟩ := hB
  rw [ht1] at hP1
  obtain ⟨hP, hD⟩ := va_join (wr := []) (w1 := [(q_1, .inr (5, [.int 0, .ref (g 100), .int 0])), ((a 200), f_m a g), ((a 201), .inr (5, [.int 0, .ref (g 100), .int 0]))]) hP hD [0, 1] [] rfl rfl (by decide) (by decide) hk1 hFc hP1 hD1
  subst hr9
  have hP : va_P D vwCl [(q_1, .inr (5, [.int 0, .ref (g 100), .int 0])), ((a 200), f_m a g), ((a 201), .inr (5, [.int 0, .ref (g 100), .int 0]))] H := hP
  have hD : va_D (va_A [((a 200), f_m a g), ((a 201), .inr (5, [.int 0, .ref (g 100), .int 0]))] s.heap.size) [(q_1, .inr (5, [.int 0, .ref (g 100), .int 0])), ((a 200), f_m a g), ((a 201), .inr (5, [.int 0, .ref (g 100), .int 0]))] := hD
  have hPc : va_P D vwCl [(q_1, .inr (5, [.int 0, .ref (g 100), .int 0]))] _ := hP.sub (ws' := [(q_1, .inr (5, [.int 0, .ref (g 100), .int 0]))]) [0] rfl
  have hDc : va_D (fun q => z0 ≤ q) [(q_1, .inr (5, [.int 0, .ref (g 100), .int 0]))] := (hD.to hAz).pick (ws' := [(q_1, .inr (5, [.int 0, .ref (g 100), .int 0]))]) [0] (by decide) rfl
  have hFc := AnA (ws := [((a 200), f_m a g), ((a 201), .inr (5, [.int 0, .ref (g 100), .int 0]))]) hS.1
  refine va_callFi (va_runF (As := []) (rest := []) (hK.1.1 5 _ rfl).2 ⟨hx, hb, hml, hown, ht⟩ (k_Jx4a65c_size_8abf5 l D g z0 _ a q_1) (va_cwF 0 ht (gF w_356 w_358 w_359 w_323 w_357) rfl rfl rfl (hK.2.2.2.1 _ (List.mem_of_getElem? (i := 0) rfl)) (by decide +kernel) (le2 rfl rfl)) ⟨PP.blind, va_recv hK.1 hP (ci := 5) (q0 := 0) rfl rfl, PP.mk' hK hZ hz hAz hS hPc hDc⟩ rfl rfl hl.1 rfl (lv_room (Nat.le_of_ble_eq_true rfl)) dX15_classes_9 (le2 rfl rfl)) hS (fun q _ h => hFc q h) hFc (fun r u t H locs ht1 hvm hw hB hz1 hk1 hS => ?_)
  obtain ⟨rfl, hw⟩ := hw
  have hP := ro1 hP hk1
  have hP9 := hP.sub (ws' := [((a 200), f_m a g)]) [1] rfl
  have hD9 := hD.sub (ws' := [((a 200), f_m a g)]) [1] (by decide) rfl
  refine W.widen (k := 2) (n := 3) (Nat.le_of_ble_eq_true rfl) (Nat.le_of_ble_eq_true rfl) ?_
  exact W.iret (v := 0) hx hb hr (fun t ht9 hW9 => ⟨⟨0, (), rfl, ⟨rfl, trivial⟩, ⟨(by rw [ht9]; exact hP9), hD9⟩⟩, hS.F ht9⟩) hS.2.2 dX15_classes_14 hlocks
set_option maxHeartbeats 4000000 in
set_option maxRecDepth 100000 in
theorem k_X15_canClose (l : Launch) (D : va_G) (g : Nat → ClassId) (z0 sz : Nat) (a : Nat → Nat) : Met l yX15_canClose (.code yX15_canClose cX15_canClose 5 (some .boolean) :: TG) (rmk 3 1 4 53) (va_Pc [.ref (a 200)] (PP D g z0 sz [((a 200), f_m a g), ((a 201), .inr (5, [.int 0, .ref (g 100), .int 0]))])) (va_Qi (fun (r : Int32) (u : Unit) => (r = 0) ∧ True) (fun (u : Unit) (t : State) => va_P D vwCl [((a 200), f_m a g), ((a 201), .inr (5, [.int 0, .ref (g 100), .int 0]))] t.heap ∧ va_D (va_A [((a 200), f_m a g), ((a 201), .inr (5, [.int 0, .ref (g 100), .int 0]))] sz) [((a 200), f_m a g), ((a 201), .inr (5, [.int 0, .ref (g 100), .int 0]))]) (va_A [((a 200), f_m a g), ((a 201), .inr (5, [.int 0, .ref (g 100), .int 0]))] sz)) 1 4 (va_A [((a 200), f_m a g), ((a 201), .inr (5, [.int 0, .ref (g 100), .int 0]))] sz) := by
  refine met0 (cc := cX15_canClose) (n := 5) (by decide) (Nat.le_of_ble_eq_true rfl) ?_
  intro p e s m args below meth c hx hb hr hml hown ht hlocks hnm hP0 hD0 hK hZ hsz hz ls hl
  subst hsz
  have hA : ∀ q : Nat, s.heap.size ≤ q → va_A [((a 200), f_m a g), ((a 201), .inr (5, [.int 0, .ref (g 100), .int 0]))] s.heap.size q := Anw
  have hAz : ∀ q, va_A [((a 200), f_m a g), ((a 201), .inr (5, [.int 0, .ref (g 100), .int 0]))] s.heap.size q → z0 ≤ q := Awz hz hD0
  have hS : va_S (va_A [((a 200), f_m a g), ((a 201), .inr (5, [.int 0, .ref (g 100), .int 0]))] s.heap.size) s.heap s.heap [] := va_S.rf
  have hD : va_D (va_A [((a 200), f_m a g), ((a 201), .inr (5, [.int 0, .ref (g 100), .int 0]))] s.heap.size) [((a 200), f_m a g), ((a 201), .inr (5, [.int 0, .ref (g 100), .int 0]))] := hD0.self
  have hP : va_P D vwCl [((a 200), f_m a g), ((a 201), .inr (5, [.int 0, .ref (g 100), .int 0]))] s.heap := hP0
  have hl : lv_has ls 5 [(0, .ref (a 200))] := hl
  refine lv_iconst (v := 1) hx hb dX15_canClose_0 (by decide) ?_
  refine lv_istore_n (lv' := [(1, .int 1), (0, .ref (a 200))]) hx hb dX15_canClose_1 rfl hl (by decide) rfl (fun ls hl => ?_)
  refine lv_iconst (v := 0) hx hb dX15_canClose_2 (by decide) ?_
  refine lv_istore_n (lv' := [(2, .int 0), (1, .int 1), (0, .ref (a 200))]) hx hb dX15_canClose_3 rfl hl (by decide) rfl (fun ls hl => ?_)
  refine lv_aload_n hx hb dX15_canClose_4 rfl (lv_at hl 2 rfl) ?_
  refine va_get (D := D) (ci := 21) (v := .ref (a 201)) (C := RX15) (T := TX15) (N := 29) hx hb ht in_X15 hown hK.1 hP 0 rfl rfl 1 (by decide) (ht _ w_354) (fun _ h9 => h9) rfl dX15_canClose_5 ?_
  have hPc : va_P D vwCl [((a 201), .inr (5, [.int 0, .ref (g 100), .int 0]))] _ := hP.sub (ws' := [((a 201), .inr (5, [.int 0, .ref (g 100), .int 0]))]) [1] rfl
  have hDc : va_D (fun q => z0 ≤ q) [((a 201), .inr (5, [.int 0, .ref (g 100), .int 0]))] := (hD.to hAz).pick (ws' := [((a 201), .inr (5, [.int 0, .ref (g 100), .int 0]))]) [1] (by decide) rfl
  have hFc := va_free (wc := [((a 201), .inr (5, [.int 0, .ref (g 100), .int 0]))]) hD hS hA [1] rfl
  refine va_callFr (va_runF (As := []) (rest := []) (hK.1.1 5 _ rfl).2 ⟨hx, hb, hml, hown, ht⟩ (k_Jx4a65c_iterator_32c93 l D g z0 _ a (a 201)) (va_cwF 0 ht (gF w_319 w_321 w_322 w_323 w_320) rfl rfl rfl (hK.2.2.2.1 _ (List.mem_of_getElem? (i := 3) rfl)) (by decide +kernel) (le2 rfl rfl)) ⟨PP.blind, va_recv hK.1 hP (ci := 5) (q0 := 1) rfl rfl, PP.mk' hK hZ hz hAz hS hPc hDc⟩ rfl rfl hl.1 rfl (lv_room (Nat.le_of_ble_eq_true rfl)) dX15_canClose_8 (le2 rfl rfl)) hS (fun q _ h => hFc q h) hFc (fun u ra t H locs ht1 hvm hw hB hz1 hk1 hS => ?_)
  obtain ⟨q_1, hr9, hP1, hD1⟩ := hB
  rw [ht1] at hP1
  obtain ⟨hP, hD⟩ := va_join (wr := [((a 200), f_m a g)]) (w1 := [(q_1, .inr (4, [.int 0, .int (-1), .int 0, .ref (a 201)])), ((a 201), .inr (5, [.int 0, .ref (g 100), .int 0]))]) hP hD [1] [0] rfl rfl (by decide) (by decide) hk1 hFc hP1 hD1
  subst hr9
  have hP : va_P D vwCl [((a 200), f_m a g), (q_1, .inr (4, [.int 0, .int (-1), .int 0, .ref (a 201)])), ((a 201), .inr (5, [.int 0, .ref (g 100), .int 0]))] H := hP
  have hD : va_D (va_A [((a 200), f_m a g), ((a 201), .inr (5, [.int 0, .ref (g 100), .int 0]))] s.heap.size) [((a 200), f_m a g), (q_1, .inr (4, [.int 0, .int (-1), .int 0, .ref (a 201)])), ((a 201), .inr (5, [.int 0, .ref (g 100), .int 0]))] := hD
  refine lv_astore_n (lv' := [(3, .ref q_1), (2, .int 0), (1, .int 1), (0, .ref (a 200))]) hx hb dX15_canClose_13 rfl hl (by decide) rfl (fun ls hl => ?_)
  refine lv_aload_n hx hb dX15_canClose_14 rfl (lv_at hl 0 rfl) ?_
  have hPc : va_P D vwCl [(q_1, .inr (4, [.int 0, .int (-1), .int 0, .ref (a 201)])), ((a 201), .inr (5, [.int 0, .ref (g 100), .int 0]))] _ := hP.sub (ws' := [(q_1, .inr (4, [.int 0, .int (-1), .int 0, .ref (a 201)])), ((a 201), .inr (5, [.int 0, .ref (g 100), .int 0]))]) [1, 2] rfl
  have hDc : va_D (fun q => z0 ≤ q) [(q_1, .inr (4, [.int 0, .int (-1), .int 0, .ref (a 201)])), ((a 201), .inr (5, [.int 0, .ref (g 100), .int 0]))] := (hD.to hAz).pick (ws' := [(q_1, .inr (4, [.int 0, .int (-1), .int 0, .ref (a 201)])), ((a 201), .inr (5, [.int 0, .ref (g 100), .int 0]))]) [1, 2] (by decide) rfl
  have hFc := AnA (ws := [((a 200), f_m a g), ((a 201), .inr (5, [.int 0, .ref (g 100), .int 0]))]) hS.1
  refine va_callFi (va_runF (As := []) (rest := []) (hK.1.1 4 _ rfl).2 ⟨hx, hb, hml, hown, ht⟩ (k_Jx35411_hasNext_aae02 l D g z0 _ a q_1 (a 201)) (va_cwF 0 ht (gF w_326 w_328 w_329 w_307 w_327) rfl rfl rfl (hK.2.2.2.1 _ (List.mem_of_getElem? (i := 4) rfl)) (by decide +kernel) (le2 rfl rfl)) ⟨PP.blind, va_recv hK.1 hP (ci := 4) (q0 := 1) rfl rfl, PP.mk' hK hZ hz hAz hS hPc hDc⟩ rfl rfl hl.1 rfl (lv_room (Nat.le_of_ble_eq_true rfl)) dX15_canClose_15 (le2 rfl rfl)) hS (fun q _ h => hFc q h) hFc (fun r u t H locs ht1 hvm hw hB hz1 hk1 hS => ?_)
  obtain ⟨rfl, hw⟩ := hw
  have hP := ro1 hP hk1
  refine lv_if_eq (tgt := 89) hx hb dX15_canClose_20 (by decide) (fun c_2 => ?_) (fun c_2 => ?_)
  · refine lv_iload_n hx hb dX15_canClose_89 rfl (lv_at hl 2 rfl) ?_
    refine lv_if_eq (tgt := 101) hx hb dX15_canClose_90 (by decide) (fun c_3 => ?_) (fun c_3 => ?_)
    · exact absurd c_3 (by decide)
    · refine lv_iload_n hx hb dX15_canClose_93 rfl (lv_at hl 1 rfl) ?_
      refine lv_if_eq (tgt := 101) hx hb dX15_canClose_94 (by decide) (fun c_4 => ?_) (fun c_4 => ?_)
      · refine lv_iconst (v := 0) hx hb dX15_canClose_101 (by decide) ?_
        have hP9 := hP.sub (ws' := [((a 200), f_m a g), ((a 201), .inr (5, [.int 0, .ref (g 100), .int 0]))]) [0, 2] rfl
        have hD9 := hD.sub (ws' := [((a 200), f_m a g), ((a 201), .inr (5, [.int 0, .ref (g 100), .int 0]))]) [0, 2] (by decide) rfl
        refine W.widen (k := 1) (n := 4) (Nat.le_of_ble_eq_true rfl) (Nat.le_of_ble_eq_true rfl) ?_
        exact W.zret (v := 0) hx hb hr rfl (fun t ht9 hW9 => ⟨⟨0, (), rfl, ⟨rfl, trivial⟩, ⟨(by rw [ht9]; exact hP9), hD9⟩⟩, hS.F ht9⟩) hS.2.2 dX15_canClose_102 hlocks
      · exact absurd c_4 (by decide)
  · exact absurd c_2 (by decide)
set_option maxHeartbeats 4000000 in
set_option maxRecDepth 100000 in
theorem k_X15_close (l : Launch) (D : va_G) (g : Nat → ClassId) (z0 sz : Nat) (a : Nat → Nat) : Met l yX15_close (.code yX15_close cX15_close 7 (some .int) :: TG) (rmk 4 1 4 77) (va_Pc [.ref (a 200)] (PP D g z0 sz [((a 200), f_m a g), ((a 201), .inr (5, [.int 0, .ref (g 100), .int 0]))])) (va_Qi (fun (r : Int32) (u : Unit) => (r = 0) ∧ True) (fun (u : Unit) (t : State) => va_P D vwCl [((a 200), .inr (21, [.int 1, .ref (a 201), .ref (a 202), .ref (a 203), .ref (a 204), .ref (a 205), .ref (a 206), .int 0, .int 0, .int 0, .int 0, .ref (a 208), .ref (a 209), .ref (a 210), .ref (a 211), .ref (a 212), .int 4, .int 12, .int (-1), .int 0, .ref (g 200), .ref (a 213), .int 0, .int 97, .ref (a 214), .ref (a 215), .ref (a 207), .null, .int 0]))] t.heap ∧ va_D (va_A [((a 200), f_m a g), ((a 201), .inr (5, [.int 0, .ref (g 100), .int 0]))] sz) [((a 200), .inr (21, [.int 1, .ref (a 201), .ref (a 202), .ref (a 203), .ref (a 204), .ref (a 205), .ref (a 206), .int 0, .int 0, .int 0, .int 0, .ref (a 208), .ref (a 209), .ref (a 210), .ref (a 211), .ref (a 212), .int 4, .int 12, .int (-1), .int 0, .ref (g 200), .ref (a 213), .int 0, .int 97, .ref (a 214), .ref (a 215), .ref (a 207), .null, .int 0]))]) (va_A [((a 200), f_m a g), ((a 201), .inr (5, [.int 0, .ref (g 100), .int 0]))] sz)) 1 4 (va_A [((a 200), f_m a g), ((a 201), .inr (5, [.int 0, .ref (g 100), .int 0]))] sz) := by
  refine met0 (cc := cX15_close) (n := 7) (by decide) (Nat.le_of_ble_eq_true rfl) ?_
  intro p e s m args below meth c hx hb hr hml hown ht hlocks hnm hP0 hD0 hK hZ hsz hz ls hl
  subst hsz
  have hA : ∀ q : Nat, s.heap.size ≤ q → va_A [((a 200), f_m a g), ((a 201), .inr (5, [.int 0, .ref (g 100), .int 0]))] s.heap.size q := Anw
  have hAz : ∀ q, va_A [((a 200), f_m a g), ((a 201), .inr (5, [.int 0, .ref (g 100), .int 0]))] s.heap.size q → z0 ≤ q := Awz hz hD0
  have hS : va_S (va_A [((a 200), f_m a g), ((a 201), .inr (5, [.int 0, .ref (g 100), .int 0]))] s.heap.size) s.heap s.heap [] := va_S.rf
  have hD : va_D (va_A [((a 200), f_m a g), ((a 201), .inr (5, [.int 0, .ref (g 100), .int 0]))] s.heap.size) [((a 200), f_m a g), ((a 201), .inr (5, [.int 0, .ref (g 100), .int 0]))] := hD0.self
  have hP : va_P D vwCl [((a 200), f_m a g), ((a 201), .inr (5, [.int 0, .ref (g 100), .int 0]))] s.heap := hP0
  have hl : lv_has ls 7 [(0, .ref (a 200))] := hl
  refine lv_aload_n hx hb dX15_close_0 rfl (lv_at hl 0 rfl) ?_
  refine lv_aload_n hx hb dX15_close_1 rfl (lv_at hl 0 rfl) ?_
  refine va_get (D := D) (ci := 21) (v := .int 0) (C := RX15) (T := TX15) (N := 29) hx hb ht in_X15 hown hK.1 hP 0 rfl rfl 7 (by decide) (ht _ w_383) (fun _ h9 => h9) rfl dX15_close_2 ?_
  refine lv_if_ne (tgt := 15) hx hb dX15_close_5 (by decide) (fun c_1 => ?_) (fun c_1 => ?_)
  · exact absurd c_1 (by decide)
  · refine lv_aload_n hx hb dX15_close_8 rfl (lv_at hl 0 rfl) ?_
    have hPc : va_P D vwCl [((a 200), f_m a g), ((a 201), .inr (5, [.int 0, .ref (g 100), .int 0]))] _ := hP.sub (ws' := [((a 200), f_m a g), ((a 201), .inr (5, [.int 0, .ref (g 100), .int 0]))]) [0, 1] rfl
    have hDc : va_D (fun q => z0 ≤ q) [((a 200), f_m a g), ((a 201), .inr (5, [.int 0, .ref (g 100), .int 0]))] := (hD.to hAz).pick (ws' := [((a 200), f_m a g), ((a 201), .inr (5, [.int 0, .ref (g 100), .int 0]))]) [0, 1] (by decide) rfl
    have hFc := va_free (wc := [((a 200), f_m a g), ((a 201), .inr (5, [.int 0, .ref (g 100), .int 0]))]) hD hS hA [0, 1] rfl
    refine va_calli (va_runV (As := []) (rest := [.ref (a 200)]) ⟨hx, hb, hml, hown, ht⟩ (k_X15_canClose l D g z0 _ a) (cwV 0 ht (gV w_482 w_484 w_485 w_334 w_483) rfl rfl rfl (by decide +kernel) (le2 rfl rfl)) ⟨PP.blind, va_recv hK.1 hP (ci := 21) (q0 := 0) rfl rfl, PP.mk' hK hZ hz hAz hS hPc hDc⟩ rfl rfl hl.1 rfl (lv_room (Nat.le_of_ble_eq_true rfl)) dX15_close_9 (le2 rfl rfl)) hS (fun q _ h => hFc q h) hFc (fun r u t H locs ht1 hvm hw hB hz1 hk1 hS => ?_)
    obtain ⟨rfl, hw⟩ := hw
    obtain ⟨hP1, hD1⟩ := hB
    rw [ht1] at hP1
    obtain ⟨hP, hD⟩ := va_join (wr := []) (w1 := [((a 200), f_m a g), ((a 201), .inr (5, [.int 0, .ref (g 100), .int 0]))]) hP hD [0, 1] [] rfl rfl (by decide) (by decide) hk1 hFc hP1 hD1
    have hP : va_P D vwCl [((a 200), f_m a g), ((a 201), .inr (5, [.int 0, .ref (g 100), .int 0]))] H := hP
    have hD : va_D (va_A [((a 200), f_m a g), ((a 201), .inr (5, [.int 0, .ref (g 100), .int 0]))] s.heap.size) [((a 200), f_m a g), ((a 201), .inr (5, [.int 0, .ref (g 100), .int 0]))] := hD
    refine lv_if_ne (tgt := 19) hx hb dX15_close_12 (by decide) (fun c_2 => ?_) (fun c_2 => ?_)
    · exact absurd c_2 (by decide)
    · refine lv_iconst (v := 1) hx hb dX15_close_15 (by decide) ?_
      refine lv_goto (tgt := 20) hx hb dX15_close_16 (by decide) ?_
      have hPc : va_P D vwCl [((a 200), f_m a g)] _ := hP.sub (ws' := [((a 200), f_m a g)]) [0] rfl
      have hDc : va_D (fun q => z0 ≤ q) [((a 200), f_m a g)] := (hD.to hAz).pick (ws' := [((a 200), f_m a g)]) [0] (by decide) rfl
      have hFc := va_free (wc := [((a 200), f_m a g)]) hD hS hA [0] rfl
      refine va_calli (va_runV (As := [.int 1]) (rest := []) ⟨hx, hb, hml, hown, ht⟩ (k_X15_isWrong l D g z0 _ a) (cwV 1 ht (gV w_376 w_378 w_379 w_334 w_377) rfl rfl rfl (by decide +kernel) (le2 rfl rfl)) ⟨PP.blind, va_recv hK.1 hP (ci := 21) (q0 := 0) rfl rfl, PP.mk' hK hZ hz hAz hS hPc hDc⟩ rfl rfl hl.1 rfl (lv_room (Nat.le_of_ble_eq_true rfl)) dX15_close_20 (le2 rfl rfl)) hS (fun q _ h => hFc q h) hFc (fun r u t H locs ht1 hvm hw hB hz1 hk1 hS => ?_)
      obtain ⟨rfl, hw⟩ := hw
      obtain ⟨hP1, hD1⟩ := hB
      rw [ht1] at hP1
      obtain ⟨hP, hD⟩ := va_join (wr := [((a 201), .inr (5, [.int 0, .ref (g 100), .int 0]))]) (w1 := [((a 200), .inr (21, [.int 1, .ref (a 201), .ref (a 202), .ref (a 203), .ref (a 204), .ref (a 205), .ref (a 206), .int 0, .int 0, .int 0, .int 0, .ref (a 208), .ref (a 209), .ref (a 210), .ref (a 211), .ref (a 212), .int 4, .int 12, .int (-1), .int 0, .ref (g 200), .ref (a 213), .int 0, .int 97, .ref (a 214), .ref (a 215), .ref (a 207), .null, .int 0]))]) hP hD [0] [1] rfl rfl (by decide) (by decide) hk1 hFc hP1 hD1
      have hP : va_P D vwCl [((a 201), .inr (5, [.int 0, .ref (g 100), .int 0])), ((a 200), .inr (21, [.int 1, .ref (a 201), .ref (a 202), .ref (a 203), .ref (a 204), .ref (a 205), .ref (a 206), .int 0, .int 0, .int 0, .int 0, .ref (a 208), .ref (a 209), .ref (a 210), .ref (a 211), .ref (a 212), .int 4, .int 12, .int (-1), .int 0, .ref (g 200), .ref (a 213), .int 0, .int 97, .ref (a 214), .ref (a 215), .ref (a 207), .null, .int 0]))] H := hP
      have hD : va_D (va_A [((a 200), f_m a g), ((a 201), .inr (5, [.int 0, .ref (g 100), .int 0]))] s.heap.size) [((a 201), .inr (5, [.int 0, .ref (g 100), .int 0])), ((a 200), .inr (21, [.int 1, .ref (a 201), .ref (a 202), .ref (a 203), .ref (a 204), .ref (a 205), .ref (a 206), .int 0, .int 0, .int 0, .int 0, .ref (a 208), .ref (a 209), .ref (a 210), .ref (a 211), .ref (a 212), .int 4, .int 12, .int (-1), .int 0, .ref (g 200), .ref (a 213), .int 0, .int 97, .ref (a 214), .ref (a 215), .ref (a 207), .null, .int 0]))] := hD
      refine lv_if_eq (tgt := 28) hx hb dX15_close_23 (by decide) (fun c_3 => ?_) (fun c_3 => ?_)
      · exact absurd c_3 (by decide)
      · refine lv_iconst (v := 0) hx hb dX15_close_26 (by decide) ?_
        have hP9 := hP.sub (ws' := [((a 200), .inr (21, [.int 1, .ref (a 201), .ref (a 202), .ref (a 203), .ref (a 204), .ref (a 205), .ref (a 206), .int 0, .int 0, .int 0, .int 0, .ref (a 208), .ref (a 209), .ref (a 210), .ref (a 211), .ref (a 212), .int 4, .int 12, .int (-1), .int 0, .ref (g 200), .ref (a 213), .int 0, .int 97, .ref (a 214), .ref (a 215), .ref (a 207), .null, .int 0]))]) [1] rfl
        have hD9 := hD.sub (ws' := [((a 200), .inr (21, [.int 1, .ref (a 201), .ref (a 202), .ref (a 203), .ref (a 204), .ref (a 205), .ref (a 206), .int 0, .int 0, .int 0, .int 0, .ref (a 208), .ref (a 209), .ref (a 210), .ref (a 211), .ref (a 212), .int 4, .int 12, .int (-1), .int 0, .ref (g 200), .ref (a 213), .int 0, .int 97, .ref (a 214), .ref (a 215), .ref (a 207), .null, .int 0]))]) [1] (by decide) rfl
        refine W.widen (k := 1) (n := 4) (Nat.le_of_ble_eq_true rfl) (Nat.le_of_ble_eq_true rfl) ?_
        exact W.iret (v := 0) hx hb hr (fun t ht9 hW9 => ⟨⟨0, (), rfl, ⟨rfl, trivial⟩, ⟨(by rw [ht9]; exact hP9), hD9⟩⟩, hS.F ht9⟩) hS.2.2 dX15_close_27 hlocks
