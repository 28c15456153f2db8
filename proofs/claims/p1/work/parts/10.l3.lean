theorem w_1292 : Cond.classLink RX15 453 RJ4 ∈ TG := tg (sg_14 _ (List.mem_of_getElem? (i := 49) (by decide +kernel))) (by decide +kernel)
theorem w_1293 : Cond.instantiable RJ4 4 ∈ TG := tg (sg_13 _ (List.mem_of_getElem? (i := 26) (by decide +kernel))) (by decide +kernel)
theorem w_1294 : Cond.initialized RJ4 ∈ TG := tg (sg_1 _ (List.mem_of_getElem? (i := 46) (by decide +kernel))) (by decide +kernel)
theorem in_J4 : ∀ w ∈ u_ws RJ4 TJ4 4, w ∈ TG := fun w h => tg (List.mem_append_right _ ((goodIn_r (big := tables_1) _ [2926, 2928, 2930, 2932] (by decide +kernel) (by decide +kernel) w h).1)) ((List.all_eq_true.mp (by decide +kernel : (u_ws RJ4 TJ4 4).all goodWord = true)) w h)
theorem w_1295 : Cond.methodLink RJ5 3 ⟨"java/lang/Object", "<init>", "()V"⟩ ∈ TG := tg (sg_13 _ (List.mem_of_getElem? (i := 33) (by decide +kernel))) (by decide +kernel)
theorem w_1296 : Cond.fieldLink RJ5 18 "java/lang/String" "COMPACT_STRINGS" "Z" ∈ TG := tg (sg_13 _ (List.mem_of_getElem? (i := 34) (by decide +kernel))) (by decide +kernel)
theorem w_1297 : Cond.arrayClass .byte ∈ TG := tg (sg_5 _ (List.mem_of_getElem? (i := 184) (by decide +kernel))) (by decide +kernel)
theorem w_1298 : Cond.fieldLink RJ5 15 "java/lang/AbstractStringBuilder" "value" "[B" ∈ TG := tg (sg_13 _ (List.mem_of_getElem? (i := 42) (by decide +kernel))) (by decide +kernel)
theorem w_1299 : Cond.fieldLink RJ5 22 "java/lang/AbstractStringBuilder" "coder" "B" ∈ TG := tg (sg_13 _ (List.mem_of_getElem? (i := 43) (by decide +kernel))) (by decide +kernel)
theorem w_1300 : Cond.methodLink RJ4 1 yJ5_init_d00df ∈ TG := tg (sg_13 _ (List.mem_of_getElem? (i := 30) (by decide +kernel))) (by decide +kernel)
theorem w_1301 : Cond.code yJ5_init_d00df cJ5_init_d00df 2 none ∈ TG := tg (sg_13 _ (List.mem_of_getElem? (i := 32) (by decide +kernel))) (by decide +kernel)
theorem w_1302 : Cond.initialized RJ5 ∈ TG := tg (sg_1 _ (List.mem_of_getElem? (i := 45) (by decide +kernel))) (by decide +kernel)
theorem w_1303 : Cond.instanceMethod yJ5_init_d00df ∈ TG := tg (sg_13 _ (List.mem_of_getElem? (i := 31) (by decide +kernel))) (by decide +kernel)
theorem w_1304 : Cond.methodLink RX15 455 yJ4_init_da8c8 ∈ TG := tg (sg_14 _ (List.mem_of_getElem? (i := 50) (by decide +kernel))) (by decide +kernel)
theorem w_1305 : Cond.code yJ4_init_da8c8 cJ4_init_da8c8 1 none ∈ TG := tg (sg_13 _ (List.mem_of_getElem? (i := 29) (by decide +kernel))) (by decide +kernel)
theorem w_1306 : Cond.instanceMethod yJ4_init_da8c8 ∈ TG := tg (sg_13 _ (List.mem_of_getElem? (i := 28) (by decide +kernel))) (by decide +kernel)
theorem w_1307 : Cond.methodLink RJ5 32 yJ0_length_8abf5 ∈ TG := tg (sg_13 _ (List.mem_of_getElem? (i := 98) (by decide +kernel))) (by decide +kernel)
theorem w_1308 : Cond.fieldLink RJ5 79 "java/lang/AbstractStringBuilder" "count" "I" ∈ TG := tg (sg_13 _ (List.mem_of_getElem? (i := 45) (by decide +kernel))) (by decide +kernel)
theorem w_1309 : Cond.methodLink RJ5 100 yJ5_ensureCapacityInternal_d00df ∈ TG := tg (sg_13 _ (List.mem_of_getElem? (i := 67) (by decide +kernel))) (by decide +kernel)
theorem w_1310 : Cond.code yJ5_ensureCapacityInternal_d00df cJ5_ensureCapacityInternal_d00df 3 none ∈ TG := tg (sg_13 _ (List.mem_of_getElem? (i := 70) (by decide +kernel))) (by decide +kernel)
theorem w_1311 : Cond.sameMethod "java/lang/AbstractStringBuilder" "java/lang/AbstractStringBuilder" "ensureCapacityInternal" "(I)V" ∈ TG := tg (sg_14 _ (List.mem_of_getElem? (i := 225) (by decide +kernel))) (by decide +kernel)
theorem w_1312 : Cond.selects RJ4 yJ5_ensureCapacityInternal_d00df yJ5_ensureCapacityInternal_d00df ∈ TG := tgx (List.mem_of_getElem? (i := 1) rfl) (by decide +kernel)
theorem w_1313 : Cond.instanceMethod yJ5_ensureCapacityInternal_d00df ∈ TG := tg (sg_13 _ (List.mem_of_getElem? (i := 69) (by decide +kernel))) (by decide +kernel)
theorem w_1314 : Cond.methodLink RJ5 40 yJ0_coder_7d493 ∈ TG := tg (sg_13 _ (List.mem_of_getElem? (i := 107) (by decide +kernel))) (by decide +kernel)
theorem w_1315 : Cond.methodLink RJ5 397 yJ5_inflateIfNeededFor_a7421 ∈ TG := tg (sg_13 _ (List.mem_of_getElem? (i := 103) (by decide +kernel))) (by decide +kernel)
theorem w_1316 : Cond.code yJ5_inflateIfNeededFor_a7421 cJ5_inflateIfNeededFor_a7421 2 none ∈ TG := tg (sg_13 _ (List.mem_of_getElem? (i := 106) (by decide +kernel))) (by decide +kernel)
theorem w_1317 : Cond.sameMethod "java/lang/AbstractStringBuilder" "java/lang/AbstractStringBuilder" "inflateIfNeededFor" "(Ljava/lang/String;)V" ∈ TG := tg (sg_14 _ (List.mem_of_getElem? (i := 228) (by decide +kernel))) (by decide +kernel)
theorem w_1318 : Cond.selects RJ4 yJ5_inflateIfNeededFor_a7421 yJ5_inflateIfNeededFor_a7421 ∈ TG := tgx (List.mem_of_getElem? (i := 4) rfl) (by decide +kernel)
theorem w_1319 : Cond.instanceMethod yJ5_inflateIfNeededFor_a7421 ∈ TG := tg (sg_13 _ (List.mem_of_getElem? (i := 105) (by decide +kernel))) (by decide +kernel)
theorem w_1320 : Cond.methodLink RJ0 212 ⟨"java/lang/System", "arraycopy", "(Ljava/lang/Object;ILjava/lang/Object;II)V"⟩ ∈ TG := tg (sg_13 _ (List.mem_of_getElem? (i := 131) (by decide +kernel))) (by decide +kernel)
theorem w_1321 : Cond.native ⟨"java/lang/System", "arraycopy", "(Ljava/lang/Object;ILjava/lang/Object;II)V"⟩ ∈ TG := tg (sg_9 _ (List.mem_of_getElem? (i := 44) (by decide +kernel))) (by decide +kernel)
theorem w_1322 : Cond.static ⟨"java/lang/System", "arraycopy", "(Ljava/lang/Object;ILjava/lang/Object;II)V"⟩ ∈ TG := tg (sg_9 _ (List.mem_of_getElem? (i := 43) (by decide +kernel))) (by decide +kernel)
theorem w_1323 : Cond.initialized RJ10 ∈ TG := tg (sg_1 _ (List.mem_of_getElem? (i := 29) (by decide +kernel))) (by decide +kernel)
theorem w_1324 : Cond.methodLink RJ5 399 yJ0_getBytes_840e7 ∈ TG := tg (sg_13 _ (List.mem_of_getElem? (i := 127) (by decide +kernel))) (by decide +kernel)
theorem w_1325 : Cond.code yJ0_getBytes_840e7 cJ0_getBytes_840e7 4 none ∈ TG := tg (sg_13 _ (List.mem_of_getElem? (i := 130) (by decide +kernel))) (by decide +kernel)
theorem w_1326 : Cond.instanceMethod yJ0_getBytes_840e7 ∈ TG := tg (sg_13 _ (List.mem_of_getElem? (i := 128) (by decide +kernel))) (by decide +kernel)
theorem w_1327 : Cond.selects RJ0 yJ0_getBytes_840e7 yJ0_getBytes_840e7 ∈ TG := tg (sg_13 _ (List.mem_of_getElem? (i := 129) (by decide +kernel))) (by decide +kernel)
theorem w_1328 : Cond.methodLink RJ5 208 yJ5_putStringAt_47b60 ∈ TG := tg (sg_13 _ (List.mem_of_getElem? (i := 99) (by decide +kernel))) (by decide +kernel)
theorem w_1329 : Cond.code yJ5_putStringAt_47b60 cJ5_putStringAt_47b60 3 none ∈ TG := tg (sg_13 _ (List.mem_of_getElem? (i := 102) (by decide +kernel))) (by decide +kernel)
theorem w_1330 : Cond.sameMethod "java/lang/AbstractStringBuilder" "java/lang/AbstractStringBuilder" "putStringAt" "(ILjava/lang/String;)V" ∈ TG := tg (sg_14 _ (List.mem_of_getElem? (i := 227) (by decide +kernel))) (by decide +kernel)
theorem w_1331 : Cond.selects RJ4 yJ5_putStringAt_47b60 yJ5_putStringAt_47b60 ∈ TG := tgx (List.mem_of_getElem? (i := 3) rfl) (by decide +kernel)
theorem w_1332 : Cond.instanceMethod yJ5_putStringAt_47b60 ∈ TG := tg (sg_13 _ (List.mem_of_getElem? (i := 101) (by decide +kernel))) (by decide +kernel)
theorem w_1333 : Cond.methodLink RJ4 29 yJ5_append_cf1ce ∈ TG := tg (sg_13 _ (List.mem_of_getElem? (i := 60) (by decide +kernel))) (by decide +kernel)
theorem w_1334 : Cond.code yJ5_append_cf1ce cJ5_append_cf1ce 3 (some (.object "java/lang/AbstractStringBuilder")) ∈ TG := tg (sg_13 _ (List.mem_of_getElem? (i := 62) (by decide +kernel))) (by decide +kernel)
theorem w_1335 : Cond.sameMethod "java/lang/AbstractStringBuilder" "java/lang/AbstractStringBuilder" "append" "(Ljava/lang/String;)Ljava/lang/AbstractStringBuilder;" ∈ TG := tg (sg_14 _ (List.mem_of_getElem? (i := 223) (by decide +kernel))) (by decide +kernel)
theorem w_1336 : Cond.superclass "java/lang/StringBuilder" "java/lang/AbstractStringBuilder" ∈ TG := tg (sg_13 _ (List.mem_of_getElem? (i := 54) (by decide +kernel))) (by decide +kernel)
theorem w_1337 : Cond.instanceMethod yJ5_append_cf1ce ∈ TG := tg (sg_13 _ (List.mem_of_getElem? (i := 61) (by decide +kernel))) (by decide +kernel)
theorem w_1338 : Cond.methodLink RX15 456 yJ4_append_15ec4 ∈ TG := tg (sg_14 _ (List.mem_of_getElem? (i := 51) (by decide +kernel))) (by decide +kernel)
theorem w_1339 : Cond.code yJ4_append_15ec4 cJ4_append_15ec4 2 (some (.object "java/lang/StringBuilder")) ∈ TG := tg (sg_13 _ (List.mem_of_getElem? (i := 59) (by decide +kernel))) (by decide +kernel)
theorem w_1340 : Cond.instanceMethod yJ4_append_15ec4 ∈ TG := tg (sg_13 _ (List.mem_of_getElem? (i := 57) (by decide +kernel))) (by decide +kernel)
theorem w_1341 : Cond.selects RJ4 yJ4_append_15ec4 yJ4_append_15ec4 ∈ TG := tg (sg_13 _ (List.mem_of_getElem? (i := 58) (by decide +kernel))) (by decide +kernel)
theorem w_1342 : Cond.methodLink RJ5 83 yJ5_isLatin1_aae02 ∈ TG := tg (sg_13 _ (List.mem_of_getElem? (i := 87) (by decide +kernel))) (by decide +kernel)
theorem w_1343 : Cond.code yJ5_isLatin1_aae02 cJ5_isLatin1_aae02 1 (some .boolean) ∈ TG := tg (sg_13 _ (List.mem_of_getElem? (i := 91) (by decide +kernel))) (by decide +kernel)
theorem w_1344 : Cond.sameMethod "java/lang/AbstractStringBuilder" "java/lang/AbstractStringBuilder" "isLatin1" "()Z" ∈ TG := tg (sg_13 _ (List.mem_of_getElem? (i := 89) (by decide +kernel))) (by decide +kernel)
theorem w_1345 : Cond.selects RJ4 yJ5_isLatin1_aae02 yJ5_isLatin1_aae02 ∈ TG := tg (sg_13 _ (List.mem_of_getElem? (i := 90) (by decide +kernel))) (by decide +kernel)
theorem w_1346 : Cond.instanceMethod yJ5_isLatin1_aae02 ∈ TG := tg (sg_13 _ (List.mem_of_getElem? (i := 88) (by decide +kernel))) (by decide +kernel)
theorem w_1347 : Cond.methodLink RJ5 191 yJ1_canEncode_fc78d ∈ TG := tg (sg_14 _ (List.mem_of_getElem? (i := 59) (by decide +kernel))) (by decide +kernel)
theorem w_1348 : Cond.code yJ1_canEncode_fc78d cJ1_canEncode_fc78d 1 (some .boolean) ∈ TG := tg (sg_14 _ (List.mem_of_getElem? (i := 61) (by decide +kernel))) (by decide +kernel)
theorem w_1349 : Cond.static yJ1_canEncode_fc78d ∈ TG := tg (sg_14 _ (List.mem_of_getElem? (i := 60) (by decide +kernel))) (by decide +kernel)
theorem w_1350 : Cond.methodLink RJ4 50 yJ5_append_3fe6f ∈ TG := tg (sg_14 _ (List.mem_of_getElem? (i := 56) (by decide +kernel))) (by decide +kernel)
theorem w_1351 : Cond.code yJ5_append_3fe6f cJ5_append_3fe6f 2 (some (.object "java/lang/AbstractStringBuilder")) ∈ TG := tg (sg_14 _ (List.mem_of_getElem? (i := 58) (by decide +kernel))) (by decide +kernel)
theorem w_1352 : Cond.sameMethod "java/lang/AbstractStringBuilder" "java/lang/AbstractStringBuilder" "append" "(C)Ljava/lang/AbstractStringBuilder;" ∈ TG := tg (sg_14 _ (List.mem_of_getElem? (i := 231) (by decide +kernel))) (by decide +kernel)
theorem w_1353 : Cond.instanceMethod yJ5_append_3fe6f ∈ TG := tg (sg_14 _ (List.mem_of_getElem? (i := 57) (by decide +kernel))) (by decide +kernel)
theorem w_1354 : Cond.methodLink RX15 460 yJ4_append_cf468 ∈ TG := tg (sg_14 _ (List.mem_of_getElem? (i := 52) (by decide +kernel))) (by decide +kernel)
theorem w_1355 : Cond.code yJ4_append_cf468 cJ4_append_cf468 2 (some (.object "java/lang/StringBuilder")) ∈ TG := tg (sg_14 _ (List.mem_of_getElem? (i := 55) (by decide +kernel))) (by decide +kernel)
theorem w_1356 : Cond.instanceMethod yJ4_append_cf468 ∈ TG := tg (sg_14 _ (List.mem_of_getElem? (i := 53) (by decide +kernel))) (by decide +kernel)
theorem w_1357 : Cond.selects RJ4 yJ4_append_cf468 yJ4_append_cf468 ∈ TG := tg (sg_14 _ (List.mem_of_getElem? (i := 54) (by decide +kernel))) (by decide +kernel)
theorem w_1358 : Cond.classLink RJ4 18 RJ0 ∈ TG := tg (sg_13 _ (List.mem_of_getElem? (i := 163) (by decide +kernel))) (by decide +kernel)
theorem w_1359 : Cond.instantiable RJ0 4 ∈ TG := tg (sg_5 _ (List.mem_of_getElem? (i := 183) (by decide +kernel))) (by decide +kernel)
theorem in_J0 : ∀ w ∈ u_ws RJ0 TJ0 4, w ∈ TG := fun w h => tg (List.mem_append_right _ ((goodIn_r (big := tables_1) _ [1145, 1147, 3097, 3099] (by decide +kernel) (by decide +kernel) w h).1)) ((List.all_eq_true.mp (by decide +kernel : (u_ws RJ0 TJ0 4).all goodWord = true)) w h)
theorem w_1360 : Cond.methodLink RJ0 1 ⟨"java/lang/Object", "<init>", "()V"⟩ ∈ TG := tg (sg_13 _ (List.mem_of_getElem? (i := 170) (by decide +kernel))) (by decide +kernel)
theorem w_1361 : Cond.methodLink RJ0 552 yJ5_getValue_6d5f1 ∈ TG := tg (sg_13 _ (List.mem_of_getElem? (i := 171) (by decide +kernel))) (by decide +kernel)
theorem w_1362 : Cond.code yJ5_getValue_6d5f1 cJ5_getValue_6d5f1 1 (some (.array .byte)) ∈ TG := tg (sg_13 _ (List.mem_of_getElem? (i := 175) (by decide +kernel))) (by decide +kernel)
theorem w_1363 : Cond.sameMethod "java/lang/AbstractStringBuilder" "java/lang/AbstractStringBuilder" "getValue" "()[B" ∈ TG := tg (sg_13 _ (List.mem_of_getElem? (i := 173) (by decide +kernel))) (by decide +kernel)
theorem w_1364 : Cond.selects RJ4 yJ5_getValue_6d5f1 yJ5_getValue_6d5f1 ∈ TG := tg (sg_13 _ (List.mem_of_getElem? (i := 174) (by decide +kernel))) (by decide +kernel)
theorem w_1365 : Cond.instanceMethod yJ5_getValue_6d5f1 ∈ TG := tg (sg_13 _ (List.mem_of_getElem? (i := 172) (by decide +kernel))) (by decide +kernel)
theorem w_1366 : Cond.methodLink RJ4 343 yJ5_length_8abf5 ∈ TG := tg (sg_13 _ (List.mem_of_getElem? (i := 182) (by decide +kernel))) (by decide +kernel)
theorem w_1367 : Cond.code yJ5_length_8abf5 cJ5_length_8abf5 1 (some .int) ∈ TG := tg (sg_13 _ (List.mem_of_getElem? (i := 183) (by decide +kernel))) (by decide +kernel)
theorem w_1368 : Cond.sameMethod "java/lang/AbstractStringBuilder" "java/lang/AbstractStringBuilder" "length" "()I" ∈ TG := tg (sg_13 _ (List.mem_of_getElem? (i := 178) (by decide +kernel))) (by decide +kernel)
theorem w_1369 : Cond.instanceMethod yJ5_length_8abf5 ∈ TG := tg (sg_13 _ (List.mem_of_getElem? (i := 177) (by decide +kernel))) (by decide +kernel)
theorem w_1370 : Cond.methodLink RJ0 549 yJ5_length_8abf5 ∈ TG := tg (sg_13 _ (List.mem_of_getElem? (i := 176) (by decide +kernel))) (by decide +kernel)
theorem w_1371 : Cond.code yJ4_length_8abf5 cJ4_length_8abf5 1 (some .int) ∈ TG := tg (sg_13 _ (List.mem_of_getElem? (i := 181) (by decide +kernel))) (by decide +kernel)
theorem w_1372 : Cond.selects RJ4 yJ5_length_8abf5 yJ4_length_8abf5 ∈ TG := tg (sg_13 _ (List.mem_of_getElem? (i := 179) (by decide +kernel))) (by decide +kernel)
theorem w_1373 : Cond.instanceMethod yJ4_length_8abf5 ∈ TG := tg (sg_13 _ (List.mem_of_getElem? (i := 180) (by decide +kernel))) (by decide +kernel)
theorem w_1374 : Cond.methodLink RJ0 1047 yJ5_isLatin1_aae02 ∈ TG := tg (sg_13 _ (List.mem_of_getElem? (i := 184) (by decide +kernel))) (by decide +kernel)
theorem w_1375 : Cond.methodLink RJ7 343 yJ7_checkLength_df160 ∈ TG := tg (sg_13 _ (List.mem_of_getElem? (i := 191) (by decide +kernel))) (by decide +kernel)
theorem w_1376 : Cond.code yJ7_checkLength_df160 cJ7_checkLength_df160 2 none ∈ TG := tg (sg_13 _ (List.mem_of_getElem? (i := 193) (by decide +kernel))) (by decide +kernel)
theorem w_1377 : Cond.static yJ7_checkLength_df160 ∈ TG := tg (sg_13 _ (List.mem_of_getElem? (i := 192) (by decide +kernel))) (by decide +kernel)
theorem w_1378 : Cond.methodLink RJ7 304 yJ9_min_7cf53 ∈ TG := tg (sg_10 _ (List.mem_of_getElem? (i := 109) (by decide +kernel))) (by decide +kernel)
theorem w_1379 : Cond.methodLink RJ7 150 ⟨"java/lang/System", "arraycopy", "(Ljava/lang/Object;ILjava/lang/Object;II)V"⟩ ∈ TG := tg (sg_10 _ (List.mem_of_getElem? (i := 110) (by decide +kernel))) (by decide +kernel)
theorem w_1380 : Cond.methodLink RJ7 339 yJ7_copyOfRangeByte_39247 ∈ TG := tg (sg_13 _ (List.mem_of_getElem? (i := 188) (by decide +kernel))) (by decide +kernel)
theorem w_1381 : Cond.code yJ7_copyOfRangeByte_39247 cJ7_copyOfRangeByte_39247 5 (some (.array .byte)) ∈ TG := tg (sg_13 _ (List.mem_of_getElem? (i := 190) (by decide +kernel))) (by decide +kernel)
theorem w_1382 : Cond.static yJ7_copyOfRangeByte_39247 ∈ TG := tg (sg_13 _ (List.mem_of_getElem? (i := 189) (by decide +kernel))) (by decide +kernel)
theorem w_1383 : Cond.methodLink RJ0 54 yJ7_copyOfRange_39247 ∈ TG := tg (sg_13 _ (List.mem_of_getElem? (i := 185) (by decide +kernel))) (by decide +kernel)
theorem w_1384 : Cond.code yJ7_copyOfRange_39247 cJ7_copyOfRange_39247 3 (some (.array .byte)) ∈ TG := tg (sg_13 _ (List.mem_of_getElem? (i := 187) (by decide +kernel))) (by decide +kernel)
theorem w_1385 : Cond.static yJ7_copyOfRange_39247 ∈ TG := tg (sg_13 _ (List.mem_of_getElem? (i := 186) (by decide +kernel))) (by decide +kernel)
theorem w_1386 : Cond.methodLink RJ0 489 yJ0_init_db425 ∈ TG := tg (sg_13 _ (List.mem_of_getElem? (i := 167) (by decide +kernel))) (by decide +kernel)
theorem w_1387 : Cond.code yJ0_init_db425 cJ0_init_db425 5 none ∈ TG := tg (sg_13 _ (List.mem_of_getElem? (i := 169) (by decide +kernel))) (by decide +kernel)
theorem w_1388 : Cond.instanceMethod yJ0_init_db425 ∈ TG := tg (sg_13 _ (List.mem_of_getElem? (i := 168) (by decide +kernel))) (by decide +kernel)
theorem w_1389 : Cond.methodLink RJ4 137 yJ0_init_81219 ∈ TG := tg (sg_13 _ (List.mem_of_getElem? (i := 164) (by decide +kernel))) (by decide +kernel)
theorem w_1390 : Cond.code yJ0_init_81219 cJ0_init_81219 2 none ∈ TG := tg (sg_13 _ (List.mem_of_getElem? (i := 166) (by decide +kernel))) (by decide +kernel)
theorem w_1391 : Cond.instanceMethod yJ0_init_81219 ∈ TG := tg (sg_13 _ (List.mem_of_getElem? (i := 165) (by decide +kernel))) (by decide +kernel)
theorem w_1392 : Cond.methodLink RX15 463 yJ4_toString_0e30d ∈ TG := tg (sg_14 _ (List.mem_of_getElem? (i := 72) (by decide +kernel))) (by decide +kernel)
theorem w_1393 : Cond.code yJ4_toString_0e30d cJ4_toString_0e30d 1 (some (.object "java/lang/String")) ∈ TG := tg (sg_13 _ (List.mem_of_getElem? (i := 162) (by decide +kernel))) (by decide +kernel)
theorem w_1394 : Cond.instanceMethod yJ4_toString_0e30d ∈ TG := tg (sg_13 _ (List.mem_of_getElem? (i := 160) (by decide +kernel))) (by decide +kernel)
theorem w_1395 : Cond.selects RJ4 yJ4_toString_0e30d yJ4_toString_0e30d ∈ TG := tg (sg_13 _ (List.mem_of_getElem? (i := 161) (by decide +kernel))) (by decide +kernel)
theorem w_1396 : Cond.methodLink RL 394 yL_march ∈ TG := tg (sg_8 _ (List.mem_of_getElem? (i := 71) (by decide +kernel))) (by decide +kernel)
theorem w_1397 : Cond.codeWith yL_march cL_march 4 (some .int) [(0, 9, 12, 24), (0, 9, 15, 15)] ∈ TG := tg (sg_8 _ (List.mem_of_getElem? (i := 73) (by decide +kernel))) (by decide +kernel)
theorem w_1398 : Cond.static yL_march ∈ TG := tg (sg_8 _ (List.mem_of_getElem? (i := 72) (by decide +kernel))) (by decide +kernel)
theorem w_1399 : Cond.methodLink RL 397 yX15_march ∈ TG := tg (sg_14 _ (List.mem_of_getElem? (i := 43) (by decide +kernel))) (by decide +kernel)
theorem w_1400 : Cond.code yX15_march cX15_march 2 (some .int) ∈ TG := tg (sg_14 _ (List.mem_of_getElem? (i := 46) (by decide +kernel))) (by decide +kernel)
theorem w_1401 : Cond.instanceMethod yX15_march ∈ TG := tg (sg_14 _ (List.mem_of_getElem? (i := 44) (by decide +kernel))) (by decide +kernel)
theorem w_1402 : Cond.selects RX15 yX15_march yX15_march ∈ TG := tg (sg_14 _ (List.mem_of_getElem? (i := 45) (by decide +kernel))) (by decide +kernel)
theorem dJ0_getBytes_840e7_0 : decode cJ0_getBytes_840e7 0 = .ok (.aload_n 0, 1) := by decide +kernel
theorem dJ0_getBytes_840e7_1 : decode cJ0_getBytes_840e7 1 = .ok (.invokevirtual 335, 3) := by decide +kernel
theorem dJ0_getBytes_840e7_4 : decode cJ0_getBytes_840e7 4 = .ok (.iload_n 3, 1) := by decide +kernel
theorem dJ0_getBytes_840e7_5 : decode cJ0_getBytes_840e7 5 = .ok (.if_icmp .ne 23, 3) := by decide +kernel
theorem dJ0_getBytes_840e7_8 : decode cJ0_getBytes_840e7 8 = .ok (.aload_n 0, 1) := by decide +kernel
theorem dJ0_getBytes_840e7_9 : decode cJ0_getBytes_840e7 9 = .ok (.getfield 9, 3) := by decide +kernel
theorem dJ0_getBytes_840e7_12 : decode cJ0_getBytes_840e7 12 = .ok (.iconst 0, 1) := by decide +kernel
theorem dJ0_getBytes_840e7_13 : decode cJ0_getBytes_840e7 13 = .ok (.aload_n 1, 1) := by decide +kernel
theorem dJ0_getBytes_840e7_14 : decode cJ0_getBytes_840e7 14 = .ok (.iload_n 2, 1) := by decide +kernel
theorem dJ0_getBytes_840e7_15 : decode cJ0_getBytes_840e7 15 = .ok (.iload_n 3, 1) := by decide +kernel
theorem dJ0_getBytes_840e7_16 : decode cJ0_getBytes_840e7 16 = .ok (.ishl, 1) := by decide +kernel
theorem dJ0_getBytes_840e7_17 : decode cJ0_getBytes_840e7 17 = .ok (.aload_n 0, 1) := by decide +kernel
theorem dJ0_getBytes_840e7_18 : decode cJ0_getBytes_840e7 18 = .ok (.getfield 9, 3) := by decide +kernel
theorem dJ0_getBytes_840e7_21 : decode cJ0_getBytes_840e7 21 = .ok (.arraylength, 1) := by decide +kernel
theorem dJ0_getBytes_840e7_22 : decode cJ0_getBytes_840e7 22 = .ok (.invokestatic 212, 3) := by decide +kernel
theorem dJ0_getBytes_840e7_25 : decode cJ0_getBytes_840e7 25 = .ok (.goto 18, 3) := by decide +kernel
theorem dJ0_getBytes_840e7_28 : decode cJ0_getBytes_840e7 28 = .ok (.aload_n 0, 1) := by decide +kernel
theorem dJ0_getBytes_840e7_29 : decode cJ0_getBytes_840e7 29 = .ok (.getfield 9, 3) := by decide +kernel
theorem dJ0_getBytes_840e7_32 : decode cJ0_getBytes_840e7 32 = .ok (.iconst 0, 1) := by decide +kernel
theorem dJ0_getBytes_840e7_33 : decode cJ0_getBytes_840e7 33 = .ok (.aload_n 1, 1) := by decide +kernel
theorem dJ0_getBytes_840e7_34 : decode cJ0_getBytes_840e7 34 = .ok (.iload_n 2, 1) := by decide +kernel
theorem dJ0_getBytes_840e7_35 : decode cJ0_getBytes_840e7 35 = .ok (.aload_n 0, 1) := by decide +kernel
theorem dJ0_getBytes_840e7_36 : decode cJ0_getBytes_840e7 36 = .ok (.getfield 9, 3) := by decide +kernel
theorem dJ0_getBytes_840e7_39 : decode cJ0_getBytes_840e7 39 = .ok (.arraylength, 1) := by decide +kernel
theorem dJ0_getBytes_840e7_40 : decode cJ0_getBytes_840e7 40 = .ok (.invokestatic 106, 3) := by decide +kernel
theorem dJ0_getBytes_840e7_43 : decode cJ0_getBytes_840e7 43 = .ok (.return_, 1) := by decide +kernel
theorem dJ0_init_81219_0 : decode cJ0_init_81219 0 = .ok (.aload_n 0, 1) := by decide +kernel
theorem dJ0_init_81219_1 : decode cJ0_init_81219 1 = .ok (.aload_n 1, 1) := by decide +kernel
theorem dJ0_init_81219_2 : decode cJ0_init_81219 2 = .ok (.aconst_null, 1) := by decide +kernel
theorem dJ0_init_81219_3 : decode cJ0_init_81219 3 = .ok (.invokespecial 489, 3) := by decide +kernel
theorem dJ0_init_81219_6 : decode cJ0_init_81219 6 = .ok (.return_, 1) := by decide +kernel
theorem dJ0_init_db425_0 : decode cJ0_init_db425 0 = .ok (.aload_n 0, 1) := by decide +kernel
theorem dJ0_init_db425_1 : decode cJ0_init_db425 1 = .ok (.invokespecial 1, 3) := by decide +kernel
theorem dJ0_init_db425_4 : decode cJ0_init_db425 4 = .ok (.aload_n 1, 1) := by decide +kernel
theorem dJ0_init_db425_5 : decode cJ0_init_db425 5 = .ok (.invokevirtual 552, 3) := by decide +kernel
theorem dJ0_init_db425_8 : decode cJ0_init_db425 8 = .ok (.astore_n 3, 1) := by decide +kernel
theorem dJ0_init_db425_9 : decode cJ0_init_db425 9 = .ok (.aload_n 1, 1) := by decide +kernel
theorem dJ0_init_db425_10 : decode cJ0_init_db425 10 = .ok (.invokevirtual 549, 3) := by decide +kernel
theorem dJ0_init_db425_13 : decode cJ0_init_db425 13 = .ok (.istore 4, 2) := by decide +kernel
theorem dJ0_init_db425_15 : decode cJ0_init_db425 15 = .ok (.aload_n 1, 1) := by decide +kernel
theorem dJ0_init_db425_16 : decode cJ0_init_db425 16 = .ok (.invokevirtual 1047, 3) := by decide +kernel
theorem dJ0_init_db425_19 : decode cJ0_init_db425 19 = .ok (.ifCond .eq 22, 3) := by decide +kernel
theorem dJ0_init_db425_22 : decode cJ0_init_db425 22 = .ok (.aload_n 0, 1) := by decide +kernel
theorem dJ0_init_db425_23 : decode cJ0_init_db425 23 = .ok (.iconst 0, 1) := by decide +kernel
theorem dJ0_init_db425_24 : decode cJ0_init_db425 24 = .ok (.putfield 15, 3) := by decide +kernel
theorem dJ0_init_db425_27 : decode cJ0_init_db425 27 = .ok (.aload_n 0, 1) := by decide +kernel
theorem dJ0_init_db425_28 : decode cJ0_init_db425 28 = .ok (.aload_n 3, 1) := by decide +kernel
theorem dJ0_init_db425_29 : decode cJ0_init_db425 29 = .ok (.iconst 0, 1) := by decide +kernel
theorem dJ0_init_db425_30 : decode cJ0_init_db425 30 = .ok (.iload 4, 2) := by decide +kernel
theorem dJ0_init_db425_32 : decode cJ0_init_db425 32 = .ok (.invokestatic 54, 3) := by decide +kernel
theorem dJ0_init_db425_35 : decode cJ0_init_db425 35 = .ok (.putfield 9, 3) := by decide +kernel
theorem dJ0_init_db425_38 : decode cJ0_init_db425 38 = .ok (.goto 59, 3) := by decide +kernel
theorem dJ0_init_db425_41 : decode cJ0_init_db425 41 = .ok (.getstatic 38, 3) := by decide +kernel
theorem dJ0_init_db425_44 : decode cJ0_init_db425 44 = .ok (.ifCond .eq 35, 3) := by decide +kernel
theorem dJ0_init_db425_47 : decode cJ0_init_db425 47 = .ok (.aload_n 1, 1) := by decide +kernel
theorem dJ0_init_db425_48 : decode cJ0_init_db425 48 = .ok (.getfield 1048, 3) := by decide +kernel
theorem dJ0_init_db425_51 : decode cJ0_init_db425 51 = .ok (.ifCond .eq 28, 3) := by decide +kernel
theorem dJ0_init_db425_54 : decode cJ0_init_db425 54 = .ok (.aload_n 0, 1) := by decide +kernel
theorem dJ0_init_db425_55 : decode cJ0_init_db425 55 = .ok (.aload_n 3, 1) := by decide +kernel
theorem dJ0_init_db425_56 : decode cJ0_init_db425 56 = .ok (.iconst 0, 1) := by decide +kernel
theorem dJ0_init_db425_57 : decode cJ0_init_db425 57 = .ok (.iload 4, 2) := by decide +kernel
theorem dJ0_init_db425_59 : decode cJ0_init_db425 59 = .ok (.invokestatic 1051, 3) := by decide +kernel
theorem dJ0_init_db425_62 : decode cJ0_init_db425 62 = .ok (.putfield 9, 3) := by decide +kernel
theorem dJ0_init_db425_65 : decode cJ0_init_db425 65 = .ok (.aload_n 0, 1) := by decide +kernel
theorem dJ0_init_db425_66 : decode cJ0_init_db425 66 = .ok (.aload_n 0, 1) := by decide +kernel
theorem dJ0_init_db425_67 : decode cJ0_init_db425 67 = .ok (.getfield 9, 3) := by decide +kernel
theorem dJ0_init_db425_70 : decode cJ0_init_db425 70 = .ok (.iload 4, 2) := by decide +kernel
theorem dJ0_init_db425_72 : decode cJ0_init_db425 72 = .ok (.invokestatic 47, 3) := by decide +kernel
theorem dJ0_init_db425_75 : decode cJ0_init_db425 75 = .ok (.putfield 15, 3) := by decide +kernel
theorem dJ0_init_db425_78 : decode cJ0_init_db425 78 = .ok (.return_, 1) := by decide +kernel
theorem dJ0_init_db425_79 : decode cJ0_init_db425 79 = .ok (.aload_n 0, 1) := by decide +kernel
theorem dJ0_init_db425_80 : decode cJ0_init_db425 80 = .ok (.iconst 1, 1) := by decide +kernel
theorem dJ0_init_db425_81 : decode cJ0_init_db425 81 = .ok (.putfield 15, 3) := by decide +kernel
theorem dJ0_init_db425_84 : decode cJ0_init_db425 84 = .ok (.aload_n 0, 1) := by decide +kernel
theorem dJ0_init_db425_85 : decode cJ0_init_db425 85 = .ok (.aload_n 3, 1) := by decide +kernel
theorem dJ0_init_db425_86 : decode cJ0_init_db425 86 = .ok (.iconst 0, 1) := by decide +kernel
theorem dJ0_init_db425_87 : decode cJ0_init_db425 87 = .ok (.iload 4, 2) := by decide +kernel
theorem dJ0_init_db425_89 : decode cJ0_init_db425 89 = .ok (.iconst 1, 1) := by decide +kernel
theorem dJ0_init_db425_90 : decode cJ0_init_db425 90 = .ok (.ishl, 1) := by decide +kernel
theorem dJ0_init_db425_91 : decode cJ0_init_db425 91 = .ok (.invokestatic 54, 3) := by decide +kernel
theorem dJ0_init_db425_94 : decode cJ0_init_db425 94 = .ok (.putfield 9, 3) := by decide +kernel
theorem dJ0_init_db425_97 : decode cJ0_init_db425 97 = .ok (.return_, 1) := by decide +kernel
theorem dJ1_canEncode_fc78d_0 : decode cJ1_canEncode_fc78d 0 = .ok (.iload_n 0, 1) := by decide +kernel
theorem dJ1_canEncode_fc78d_1 : decode cJ1_canEncode_fc78d 1 = .ok (.sipush 255, 3) := by decide +kernel
theorem dJ1_canEncode_fc78d_4 : decode cJ1_canEncode_fc78d 4 = .ok (.if_icmp .gt 7, 3) := by decide +kernel
theorem dJ1_canEncode_fc78d_7 : decode cJ1_canEncode_fc78d 7 = .ok (.iconst 1, 1) := by decide +kernel
theorem dJ1_canEncode_fc78d_8 : decode cJ1_canEncode_fc78d 8 = .ok (.goto 4, 3) := by decide +kernel
theorem dJ1_canEncode_fc78d_11 : decode cJ1_canEncode_fc78d 11 = .ok (.iconst 0, 1) := by decide +kernel
theorem dJ1_canEncode_fc78d_12 : decode cJ1_canEncode_fc78d 12 = .ok (.ireturn, 1) := by decide +kernel
theorem dJ4_append_15ec4_0 : decode cJ4_append_15ec4 0 = .ok (.aload_n 0, 1) := by decide +kernel
theorem dJ4_append_15ec4_1 : decode cJ4_append_15ec4 1 = .ok (.aload_n 1, 1) := by decide +kernel
theorem dJ4_append_15ec4_2 : decode cJ4_append_15ec4 2 = .ok (.invokespecial 29, 3) := by decide +kernel
theorem dJ4_append_15ec4_5 : decode cJ4_append_15ec4 5 = .ok (.pop, 1) := by decide +kernel
theorem dJ4_append_15ec4_6 : decode cJ4_append_15ec4 6 = .ok (.aload_n 0, 1) := by decide +kernel
theorem dJ4_append_15ec4_7 : decode cJ4_append_15ec4 7 = .ok (.areturn, 1) := by decide +kernel
theorem dJ4_append_cf468_0 : decode cJ4_append_cf468 0 = .ok (.aload_n 0, 1) := by decide +kernel
theorem dJ4_append_cf468_1 : decode cJ4_append_cf468 1 = .ok (.iload_n 1, 1) := by decide +kernel
theorem dJ4_append_cf468_2 : decode cJ4_append_cf468 2 = .ok (.invokespecial 50, 3) := by decide +kernel
theorem dJ4_append_cf468_5 : decode cJ4_append_cf468 5 = .ok (.pop, 1) := by decide +kernel
theorem dJ4_append_cf468_6 : decode cJ4_append_cf468 6 = .ok (.aload_n 0, 1) := by decide +kernel
theorem dJ4_append_cf468_7 : decode cJ4_append_cf468 7 = .ok (.areturn, 1) := by decide +kernel
theorem dJ4_init_da8c8_0 : decode cJ4_init_da8c8 0 = .ok (.aload_n 0, 1) := by decide +kernel
theorem dJ4_init_da8c8_1 : decode cJ4_init_da8c8 1 = .ok (.bipush 16, 2) := by decide +kernel
theorem dJ4_init_da8c8_3 : decode cJ4_init_da8c8 3 = .ok (.invokespecial 1, 3) := by decide +kernel
theorem dJ4_init_da8c8_6 : decode cJ4_init_da8c8 6 = .ok (.return_, 1) := by decide +kernel
theorem dJ4_length_8abf5_0 : decode cJ4_length_8abf5 0 = .ok (.aload_n 0, 1) := by decide +kernel
theorem dJ4_length_8abf5_1 : decode cJ4_length_8abf5 1 = .ok (.invokespecial 343, 3) := by decide +kernel
theorem dJ4_length_8abf5_4 : decode cJ4_length_8abf5 4 = .ok (.ireturn, 1) := by decide +kernel
theorem dJ4_toString_0e30d_0 : decode cJ4_toString_0e30d 0 = .ok (.new 18, 3) := by decide +kernel
theorem dJ4_toString_0e30d_3 : decode cJ4_toString_0e30d 3 = .ok (.dup, 1) := by decide +kernel
theorem dJ4_toString_0e30d_4 : decode cJ4_toString_0e30d 4 = .ok (.aload_n 0, 1) := by decide +kernel
theorem dJ4_toString_0e30d_5 : decode cJ4_toString_0e30d 5 = .ok (.invokespecial 137, 3) := by decide +kernel
theorem dJ4_toString_0e30d_8 : decode cJ4_toString_0e30d 8 = .ok (.areturn, 1) := by decide +kernel
theorem dJ5_append_3fe6f_0 : decode cJ5_append_3fe6f 0 = .ok (.aload_n 0, 1) := by decide +kernel
theorem dJ5_append_3fe6f_1 : decode cJ5_append_3fe6f 1 = .ok (.aload_n 0, 1) := by decide +kernel
theorem dJ5_append_3fe6f_2 : decode cJ5_append_3fe6f 2 = .ok (.getfield 79, 3) := by decide +kernel
theorem dJ5_append_3fe6f_5 : decode cJ5_append_3fe6f 5 = .ok (.iconst 1, 1) := by decide +kernel
theorem dJ5_append_3fe6f_6 : decode cJ5_append_3fe6f 6 = .ok (.iadd, 1) := by decide +kernel
theorem dJ5_append_3fe6f_7 : decode cJ5_append_3fe6f 7 = .ok (.invokevirtual 100, 3) := by decide +kernel
theorem dJ5_append_3fe6f_10 : decode cJ5_append_3fe6f 10 = .ok (.aload_n 0, 1) := by decide +kernel
theorem dJ5_append_3fe6f_11 : decode cJ5_append_3fe6f 11 = .ok (.invokevirtual 83, 3) := by decide +kernel
theorem dJ5_append_3fe6f_14 : decode cJ5_append_3fe6f 14 = .ok (.ifCond .eq 31, 3) := by decide +kernel
theorem dJ5_append_3fe6f_17 : decode cJ5_append_3fe6f 17 = .ok (.iload_n 1, 1) := by decide +kernel
theorem dJ5_append_3fe6f_18 : decode cJ5_append_3fe6f 18 = .ok (.invokestatic 191, 3) := by decide +kernel
theorem dJ5_append_3fe6f_21 : decode cJ5_append_3fe6f 21 = .ok (.ifCond .eq 24, 3) := by decide +kernel
theorem dJ5_append_3fe6f_24 : decode cJ5_append_3fe6f 24 = .ok (.aload_n 0, 1) := by decide +kernel
theorem dJ5_append_3fe6f_25 : decode cJ5_append_3fe6f 25 = .ok (.getfield 15, 3) := by decide +kernel
theorem dJ5_append_3fe6f_28 : decode cJ5_append_3fe6f 28 = .ok (.aload_n 0, 1) := by decide +kernel
theorem dJ5_append_3fe6f_29 : decode cJ5_append_3fe6f 29 = .ok (.dup, 1) := by decide +kernel
theorem dJ5_append_3fe6f_30 : decode cJ5_append_3fe6f 30 = .ok (.getfield 79, 3) := by decide +kernel
theorem dJ5_append_3fe6f_33 : decode cJ5_append_3fe6f 33 = .ok (.dup_x1, 1) := by decide +kernel
theorem dJ5_append_3fe6f_34 : decode cJ5_append_3fe6f 34 = .ok (.iconst 1, 1) := by decide +kernel
theorem dJ5_append_3fe6f_35 : decode cJ5_append_3fe6f 35 = .ok (.iadd, 1) := by decide +kernel
theorem dJ5_append_3fe6f_36 : decode cJ5_append_3fe6f 36 = .ok (.putfield 79, 3) := by decide +kernel
theorem dJ5_append_3fe6f_39 : decode cJ5_append_3fe6f 39 = .ok (.iload_n 1, 1) := by decide +kernel
theorem dJ5_append_3fe6f_40 : decode cJ5_append_3fe6f 40 = .ok (.i2b, 1) := by decide +kernel
theorem dJ5_append_3fe6f_41 : decode cJ5_append_3fe6f 41 = .ok (.bastore, 1) := by decide +kernel
theorem dJ5_append_3fe6f_42 : decode cJ5_append_3fe6f 42 = .ok (.goto 33, 3) := by decide +kernel
theorem dJ5_append_3fe6f_45 : decode cJ5_append_3fe6f 45 = .ok (.aload_n 0, 1) := by decide +kernel
theorem dJ5_append_3fe6f_46 : decode cJ5_append_3fe6f 46 = .ok (.invokevirtual 83, 3) := by decide +kernel
theorem dJ5_append_3fe6f_49 : decode cJ5_append_3fe6f 49 = .ok (.ifCond .eq 7, 3) := by decide +kernel
theorem dJ5_append_3fe6f_52 : decode cJ5_append_3fe6f 52 = .ok (.aload_n 0, 1) := by decide +kernel
theorem dJ5_append_3fe6f_53 : decode cJ5_append_3fe6f 53 = .ok (.invokevirtual 195, 3) := by decide +kernel
theorem dJ5_append_3fe6f_56 : decode cJ5_append_3fe6f 56 = .ok (.aload_n 0, 1) := by decide +kernel
theorem dJ5_append_3fe6f_57 : decode cJ5_append_3fe6f 57 = .ok (.getfield 15, 3) := by decide +kernel
theorem dJ5_append_3fe6f_60 : decode cJ5_append_3fe6f 60 = .ok (.aload_n 0, 1) := by decide +kernel
theorem dJ5_append_3fe6f_61 : decode cJ5_append_3fe6f 61 = .ok (.dup, 1) := by decide +kernel
theorem dJ5_append_3fe6f_62 : decode cJ5_append_3fe6f 62 = .ok (.getfield 79, 3) := by decide +kernel
theorem dJ5_append_3fe6f_65 : decode cJ5_append_3fe6f 65 = .ok (.dup_x1, 1) := by decide +kernel
theorem dJ5_append_3fe6f_66 : decode cJ5_append_3fe6f 66 = .ok (.iconst 1, 1) := by decide +kernel
theorem dJ5_append_3fe6f_67 : decode cJ5_append_3fe6f 67 = .ok (.iadd, 1) := by decide +kernel
theorem dJ5_append_3fe6f_68 : decode cJ5_append_3fe6f 68 = .ok (.putfield 79, 3) := by decide +kernel
theorem dJ5_append_3fe6f_71 : decode cJ5_append_3fe6f 71 = .ok (.iload_n 1, 1) := by decide +kernel
theorem dJ5_append_3fe6f_72 : decode cJ5_append_3fe6f 72 = .ok (.invokestatic 197, 3) := by decide +kernel
theorem dJ5_append_3fe6f_75 : decode cJ5_append_3fe6f 75 = .ok (.aload_n 0, 1) := by decide +kernel
theorem dJ5_append_3fe6f_76 : decode cJ5_append_3fe6f 76 = .ok (.areturn, 1) := by decide +kernel
theorem dJ5_append_cf1ce_0 : decode cJ5_append_cf1ce 0 = .ok (.aload_n 1, 1) := by decide +kernel
theorem dJ5_append_cf1ce_1 : decode cJ5_append_cf1ce 1 = .ok (.ifnonnull 8, 3) := by decide +kernel
theorem dJ5_append_cf1ce_4 : decode cJ5_append_cf1ce 4 = .ok (.aload_n 0, 1) := by decide +kernel
theorem dJ5_append_cf1ce_5 : decode cJ5_append_cf1ce 5 = .ok (.invokevirtual 204, 3) := by decide +kernel
theorem dJ5_append_cf1ce_8 : decode cJ5_append_cf1ce 8 = .ok (.areturn, 1) := by decide +kernel
theorem dJ5_append_cf1ce_9 : decode cJ5_append_cf1ce 9 = .ok (.aload_n 1, 1) := by decide +kernel
theorem dJ5_append_cf1ce_10 : decode cJ5_append_cf1ce 10 = .ok (.invokevirtual 32, 3) := by decide +kernel
theorem dJ5_append_cf1ce_13 : decode cJ5_append_cf1ce 13 = .ok (.istore_n 2, 1) := by decide +kernel
theorem dJ5_append_cf1ce_14 : decode cJ5_append_cf1ce 14 = .ok (.aload_n 0, 1) := by decide +kernel
theorem dJ5_append_cf1ce_15 : decode cJ5_append_cf1ce 15 = .ok (.aload_n 0, 1) := by decide +kernel
theorem dJ5_append_cf1ce_16 : decode cJ5_append_cf1ce 16 = .ok (.getfield 79, 3) := by decide +kernel
theorem dJ5_append_cf1ce_19 : decode cJ5_append_cf1ce 19 = .ok (.iload_n 2, 1) := by decide +kernel
theorem dJ5_append_cf1ce_20 : decode cJ5_append_cf1ce 20 = .ok (.iadd, 1) := by decide +kernel
theorem dJ5_append_cf1ce_21 : decode cJ5_append_cf1ce 21 = .ok (.invokevirtual 100, 3) := by decide +kernel
theorem dJ5_append_cf1ce_24 : decode cJ5_append_cf1ce 24 = .ok (.aload_n 0, 1) := by decide +kernel
theorem dJ5_append_cf1ce_25 : decode cJ5_append_cf1ce 25 = .ok (.aload_n 0, 1) := by decide +kernel
theorem dJ5_append_cf1ce_26 : decode cJ5_append_cf1ce 26 = .ok (.getfield 79, 3) := by decide +kernel
theorem dJ5_append_cf1ce_29 : decode cJ5_append_cf1ce 29 = .ok (.aload_n 1, 1) := by decide +kernel
theorem dJ5_append_cf1ce_30 : decode cJ5_append_cf1ce 30 = .ok (.invokevirtual 208, 3) := by decide +kernel
theorem dJ5_append_cf1ce_33 : decode cJ5_append_cf1ce 33 = .ok (.aload_n 0, 1) := by decide +kernel
theorem dJ5_append_cf1ce_34 : decode cJ5_append_cf1ce 34 = .ok (.dup, 1) := by decide +kernel
theorem dJ5_append_cf1ce_35 : decode cJ5_append_cf1ce 35 = .ok (.getfield 79, 3) := by decide +kernel
theorem dJ5_append_cf1ce_38 : decode cJ5_append_cf1ce 38 = .ok (.iload_n 2, 1) := by decide +kernel
theorem dJ5_append_cf1ce_39 : decode cJ5_append_cf1ce 39 = .ok (.iadd, 1) := by decide +kernel
theorem dJ5_append_cf1ce_40 : decode cJ5_append_cf1ce 40 = .ok (.putfield 79, 3) := by decide +kernel
theorem dJ5_append_cf1ce_43 : decode cJ5_append_cf1ce 43 = .ok (.aload_n 0, 1) := by decide +kernel
theorem dJ5_append_cf1ce_44 : decode cJ5_append_cf1ce 44 = .ok (.areturn, 1) := by decide +kernel
theorem dJ5_ensureCapacityInternal_d00df_0 : decode cJ5_ensureCapacityInternal_d00df 0 = .ok (.aload_n 0, 1) := by decide +kernel
theorem dJ5_ensureCapacityInternal_d00df_1 : decode cJ5_ensureCapacityInternal_d00df 1 = .ok (.getfield 15, 3) := by decide +kernel
theorem dJ5_ensureCapacityInternal_d00df_4 : decode cJ5_ensureCapacityInternal_d00df 4 = .ok (.arraylength, 1) := by decide +kernel
theorem dJ5_ensureCapacityInternal_d00df_5 : decode cJ5_ensureCapacityInternal_d00df 5 = .ok (.aload_n 0, 1) := by decide +kernel
theorem dJ5_ensureCapacityInternal_d00df_6 : decode cJ5_ensureCapacityInternal_d00df 6 = .ok (.getfield 22, 3) := by decide +kernel
theorem dJ5_ensureCapacityInternal_d00df_9 : decode cJ5_ensureCapacityInternal_d00df 9 = .ok (.ishr, 1) := by decide +kernel
theorem dJ5_ensureCapacityInternal_d00df_10 : decode cJ5_ensureCapacityInternal_d00df 10 = .ok (.istore_n 2, 1) := by decide +kernel
theorem dJ5_ensureCapacityInternal_d00df_11 : decode cJ5_ensureCapacityInternal_d00df 11 = .ok (.iload_n 1, 1) := by decide +kernel
theorem dJ5_ensureCapacityInternal_d00df_12 : decode cJ5_ensureCapacityInternal_d00df 12 = .ok (.iload_n 2, 1) := by decide +kernel
theorem dJ5_ensureCapacityInternal_d00df_13 : decode cJ5_ensureCapacityInternal_d00df 13 = .ok (.isub, 1) := by decide +kernel
theorem dJ5_ensureCapacityInternal_d00df_14 : decode cJ5_ensureCapacityInternal_d00df 14 = .ok (.ifCond .le 24, 3) := by decide +kernel
theorem dJ5_ensureCapacityInternal_d00df_17 : decode cJ5_ensureCapacityInternal_d00df 17 = .ok (.aload_n 0, 1) := by decide +kernel
theorem dJ5_ensureCapacityInternal_d00df_18 : decode cJ5_ensureCapacityInternal_d00df 18 = .ok (.aload_n 0, 1) := by decide +kernel
theorem dJ5_ensureCapacityInternal_d00df_19 : decode cJ5_ensureCapacityInternal_d00df 19 = .ok (.getfield 15, 3) := by decide +kernel
theorem dJ5_ensureCapacityInternal_d00df_22 : decode cJ5_ensureCapacityInternal_d00df 22 = .ok (.aload_n 0, 1) := by decide +kernel
theorem dJ5_ensureCapacityInternal_d00df_23 : decode cJ5_ensureCapacityInternal_d00df 23 = .ok (.iload_n 1, 1) := by decide +kernel
theorem dJ5_ensureCapacityInternal_d00df_24 : decode cJ5_ensureCapacityInternal_d00df 24 = .ok (.invokevirtual 104, 3) := by decide +kernel
theorem dJ5_ensureCapacityInternal_d00df_27 : decode cJ5_ensureCapacityInternal_d00df 27 = .ok (.aload_n 0, 1) := by decide +kernel
theorem dJ5_ensureCapacityInternal_d00df_28 : decode cJ5_ensureCapacityInternal_d00df 28 = .ok (.getfield 22, 3) := by decide +kernel
theorem dJ5_ensureCapacityInternal_d00df_31 : decode cJ5_ensureCapacityInternal_d00df 31 = .ok (.ishl, 1) := by decide +kernel
theorem dJ5_ensureCapacityInternal_d00df_32 : decode cJ5_ensureCapacityInternal_d00df 32 = .ok (.invokestatic 108, 3) := by decide +kernel
theorem dJ5_ensureCapacityInternal_d00df_35 : decode cJ5_ensureCapacityInternal_d00df 35 = .ok (.putfield 15, 3) := by decide +kernel
theorem dJ5_ensureCapacityInternal_d00df_38 : decode cJ5_ensureCapacityInternal_d00df 38 = .ok (.return_, 1) := by decide +kernel
theorem dJ5_getValue_6d5f1_0 : decode cJ5_getValue_6d5f1 0 = .ok (.aload_n 0, 1) := by decide +kernel
theorem dJ5_getValue_6d5f1_1 : decode cJ5_getValue_6d5f1 1 = .ok (.getfield 15, 3) := by decide +kernel
theorem dJ5_getValue_6d5f1_4 : decode cJ5_getValue_6d5f1 4 = .ok (.areturn, 1) := by decide +kernel
theorem dJ5_inflateIfNeededFor_a7421_0 : decode cJ5_inflateIfNeededFor_a7421 0 = .ok (.getstatic 18, 3) := by decide +kernel
theorem dJ5_inflateIfNeededFor_a7421_3 : decode cJ5_inflateIfNeededFor_a7421 3 = .ok (.ifCond .eq 18, 3) := by decide +kernel
theorem dJ5_inflateIfNeededFor_a7421_6 : decode cJ5_inflateIfNeededFor_a7421 6 = .ok (.aload_n 0, 1) := by decide +kernel
theorem dJ5_inflateIfNeededFor_a7421_7 : decode cJ5_inflateIfNeededFor_a7421 7 = .ok (.getfield 22, 3) := by decide +kernel
theorem dJ5_inflateIfNeededFor_a7421_10 : decode cJ5_inflateIfNeededFor_a7421 10 = .ok (.aload_n 1, 1) := by decide +kernel
theorem dJ5_inflateIfNeededFor_a7421_11 : decode cJ5_inflateIfNeededFor_a7421 11 = .ok (.invokevirtual 40, 3) := by decide +kernel
theorem dJ5_inflateIfNeededFor_a7421_14 : decode cJ5_inflateIfNeededFor_a7421 14 = .ok (.if_icmp .eq 7, 3) := by decide +kernel
theorem dJ5_inflateIfNeededFor_a7421_17 : decode cJ5_inflateIfNeededFor_a7421 17 = .ok (.aload_n 0, 1) := by decide +kernel
theorem dJ5_inflateIfNeededFor_a7421_18 : decode cJ5_inflateIfNeededFor_a7421 18 = .ok (.invokevirtual 195, 3) := by decide +kernel
theorem dJ5_inflateIfNeededFor_a7421_21 : decode cJ5_inflateIfNeededFor_a7421 21 = .ok (.return_, 1) := by decide +kernel
theorem dJ5_init_d00df_0 : decode cJ5_init_d00df 0 = .ok (.aload_n 0, 1) := by decide +kernel
theorem dJ5_init_d00df_1 : decode cJ5_init_d00df 1 = .ok (.invokespecial 3, 3) := by decide +kernel
theorem dJ5_init_d00df_4 : decode cJ5_init_d00df 4 = .ok (.getstatic 18, 3) := by decide +kernel
theorem dJ5_init_d00df_7 : decode cJ5_init_d00df 7 = .ok (.ifCond .eq 18, 3) := by decide +kernel
theorem dJ5_init_d00df_10 : decode cJ5_init_d00df 10 = .ok (.aload_n 0, 1) := by decide +kernel
theorem dJ5_init_d00df_11 : decode cJ5_init_d00df 11 = .ok (.iload_n 1, 1) := by decide +kernel
theorem dJ5_init_d00df_12 : decode cJ5_init_d00df 12 = .ok (.newarray .byte, 2) := by decide +kernel
theorem dJ5_init_d00df_14 : decode cJ5_init_d00df 14 = .ok (.putfield 15, 3) := by decide +kernel
theorem dJ5_init_d00df_17 : decode cJ5_init_d00df 17 = .ok (.aload_n 0, 1) := by decide +kernel
theorem dJ5_init_d00df_18 : decode cJ5_init_d00df 18 = .ok (.iconst 0, 1) := by decide +kernel
theorem dJ5_init_d00df_19 : decode cJ5_init_d00df 19 = .ok (.putfield 22, 3) := by decide +kernel
theorem dJ5_init_d00df_22 : decode cJ5_init_d00df 22 = .ok (.goto 16, 3) := by decide +kernel
theorem dJ5_init_d00df_25 : decode cJ5_init_d00df 25 = .ok (.aload_n 0, 1) := by decide +kernel
theorem dJ5_init_d00df_26 : decode cJ5_init_d00df 26 = .ok (.iload_n 1, 1) := by decide +kernel
theorem dJ5_init_d00df_27 : decode cJ5_init_d00df 27 = .ok (.invokestatic 26, 3) := by decide +kernel
theorem dJ5_init_d00df_30 : decode cJ5_init_d00df 30 = .ok (.putfield 15, 3) := by decide +kernel
theorem dJ5_init_d00df_33 : decode cJ5_init_d00df 33 = .ok (.aload_n 0, 1) := by decide +kernel
theorem dJ5_init_d00df_34 : decode cJ5_init_d00df 34 = .ok (.iconst 1, 1) := by decide +kernel
theorem dJ5_init_d00df_35 : decode cJ5_init_d00df 35 = .ok (.putfield 22, 3) := by decide +kernel
theorem dJ5_init_d00df_38 : decode cJ5_init_d00df 38 = .ok (.return_, 1) := by decide +kernel
theorem dJ5_isLatin1_aae02_0 : decode cJ5_isLatin1_aae02 0 = .ok (.getstatic 18, 3) := by decide +kernel
theorem dJ5_isLatin1_aae02_3 : decode cJ5_isLatin1_aae02 3 = .ok (.ifCond .eq 14, 3) := by decide +kernel
theorem dJ5_isLatin1_aae02_6 : decode cJ5_isLatin1_aae02 6 = .ok (.aload_n 0, 1) := by decide +kernel
theorem dJ5_isLatin1_aae02_7 : decode cJ5_isLatin1_aae02 7 = .ok (.getfield 22, 3) := by decide +kernel
theorem dJ5_isLatin1_aae02_10 : decode cJ5_isLatin1_aae02 10 = .ok (.ifCond .ne 7, 3) := by decide +kernel
theorem dJ5_isLatin1_aae02_13 : decode cJ5_isLatin1_aae02 13 = .ok (.iconst 1, 1) := by decide +kernel
theorem dJ5_isLatin1_aae02_14 : decode cJ5_isLatin1_aae02 14 = .ok (.goto 4, 3) := by decide +kernel
theorem dJ5_isLatin1_aae02_17 : decode cJ5_isLatin1_aae02 17 = .ok (.iconst 0, 1) := by decide +kernel
theorem dJ5_isLatin1_aae02_18 : decode cJ5_isLatin1_aae02 18 = .ok (.ireturn, 1) := by decide +kernel
theorem dJ5_length_8abf5_0 : decode cJ5_length_8abf5 0 = .ok (.aload_n 0, 1) := by decide +kernel
theorem dJ5_length_8abf5_1 : decode cJ5_length_8abf5 1 = .ok (.getfield 79, 3) := by decide +kernel
theorem dJ5_length_8abf5_4 : decode cJ5_length_8abf5 4 = .ok (.ireturn, 1) := by decide +kernel
theorem dJ5_putStringAt_47b60_0 : decode cJ5_putStringAt_47b60 0 = .ok (.aload_n 0, 1) := by decide +kernel
theorem dJ5_putStringAt_47b60_1 : decode cJ5_putStringAt_47b60 1 = .ok (.aload_n 2, 1) := by decide +kernel
theorem dJ5_putStringAt_47b60_2 : decode cJ5_putStringAt_47b60 2 = .ok (.invokevirtual 397, 3) := by decide +kernel
theorem dJ5_putStringAt_47b60_5 : decode cJ5_putStringAt_47b60 5 = .ok (.aload_n 2, 1) := by decide +kernel
theorem dJ5_putStringAt_47b60_6 : decode cJ5_putStringAt_47b60 6 = .ok (.aload_n 0, 1) := by decide +kernel
theorem dJ5_putStringAt_47b60_7 : decode cJ5_putStringAt_47b60 7 = .ok (.getfield 15, 3) := by decide +kernel
theorem dJ5_putStringAt_47b60_10 : decode cJ5_putStringAt_47b60 10 = .ok (.iload_n 1, 1) := by decide +kernel
theorem dJ5_putStringAt_47b60_11 : decode cJ5_putStringAt_47b60 11 = .ok (.aload_n 0, 1) := by decide +kernel
theorem dJ5_putStringAt_47b60_12 : decode cJ5_putStringAt_47b60 12 = .ok (.getfield 22, 3) := by decide +kernel
theorem dJ5_putStringAt_47b60_15 : decode cJ5_putStringAt_47b60 15 = .ok (.invokevirtual 399, 3) := by decide +kernel
theorem dJ5_putStringAt_47b60_18 : decode cJ5_putStringAt_47b60 18 = .ok (.return_, 1) := by decide +kernel
theorem dJ7_checkLength_df160_0 : decode cJ7_checkLength_df160 0 = .ok (.iload_n 1, 1) := by decide +kernel
theorem dJ7_checkLength_df160_1 : decode cJ7_checkLength_df160 1 = .ok (.iload_n 0, 1) := by decide +kernel
theorem dJ7_checkLength_df160_2 : decode cJ7_checkLength_df160 2 = .ok (.if_icmp .ge 35, 3) := by decide +kernel
theorem dJ7_checkLength_df160_5 : decode cJ7_checkLength_df160 5 = .ok (.new 43, 3) := by decide +kernel
theorem dJ7_checkLength_df160_8 : decode cJ7_checkLength_df160 8 = .ok (.dup, 1) := by decide +kernel
theorem dJ7_checkLength_df160_9 : decode cJ7_checkLength_df160 9 = .ok (.new 45, 3) := by decide +kernel
theorem dJ7_checkLength_df160_12 : decode cJ7_checkLength_df160 12 = .ok (.dup, 1) := by decide +kernel
theorem dJ7_checkLength_df160_13 : decode cJ7_checkLength_df160 13 = .ok (.invokespecial 47, 3) := by decide +kernel
theorem dJ7_checkLength_df160_16 : decode cJ7_checkLength_df160 16 = .ok (.iload_n 0, 1) := by decide +kernel
theorem dJ7_checkLength_df160_17 : decode cJ7_checkLength_df160 17 = .ok (.invokevirtual 54, 3) := by decide +kernel
theorem dJ7_checkLength_df160_20 : decode cJ7_checkLength_df160 20 = .ok (.ldc_w 337, 3) := by decide +kernel
theorem dJ7_checkLength_df160_23 : decode cJ7_checkLength_df160 23 = .ok (.invokevirtual 50, 3) := by decide +kernel
theorem dJ7_checkLength_df160_26 : decode cJ7_checkLength_df160 26 = .ok (.iload_n 1, 1) := by decide +kernel
theorem dJ7_checkLength_df160_27 : decode cJ7_checkLength_df160 27 = .ok (.invokevirtual 54, 3) := by decide +kernel
theorem dJ7_checkLength_df160_30 : decode cJ7_checkLength_df160 30 = .ok (.invokevirtual 61, 3) := by decide +kernel
theorem dJ7_checkLength_df160_33 : decode cJ7_checkLength_df160 33 = .ok (.invokespecial 65, 3) := by decide +kernel
theorem dJ7_checkLength_df160_36 : decode cJ7_checkLength_df160 36 = .ok (.athrow, 1) := by decide +kernel
theorem dJ7_checkLength_df160_37 : decode cJ7_checkLength_df160 37 = .ok (.return_, 1) := by decide +kernel
theorem dJ7_copyOfRangeByte_39247_0 : decode cJ7_copyOfRangeByte_39247 0 = .ok (.iload_n 1, 1) := by decide +kernel
theorem dJ7_copyOfRangeByte_39247_1 : decode cJ7_copyOfRangeByte_39247 1 = .ok (.iload_n 2, 1) := by decide +kernel
theorem dJ7_copyOfRangeByte_39247_2 : decode cJ7_copyOfRangeByte_39247 2 = .ok (.invokestatic 343, 3) := by decide +kernel
theorem dJ7_copyOfRangeByte_39247_5 : decode cJ7_copyOfRangeByte_39247 5 = .ok (.iload_n 2, 1) := by decide +kernel
theorem dJ7_copyOfRangeByte_39247_6 : decode cJ7_copyOfRangeByte_39247 6 = .ok (.iload_n 1, 1) := by decide +kernel
theorem dJ7_copyOfRangeByte_39247_7 : decode cJ7_copyOfRangeByte_39247 7 = .ok (.isub, 1) := by decide +kernel
theorem dJ7_copyOfRangeByte_39247_8 : decode cJ7_copyOfRangeByte_39247 8 = .ok (.istore_n 3, 1) := by decide +kernel
theorem dJ7_copyOfRangeByte_39247_9 : decode cJ7_copyOfRangeByte_39247 9 = .ok (.iload_n 3, 1) := by decide +kernel
theorem dJ7_copyOfRangeByte_39247_10 : decode cJ7_copyOfRangeByte_39247 10 = .ok (.newarray .byte, 2) := by decide +kernel
theorem dJ7_copyOfRangeByte_39247_12 : decode cJ7_copyOfRangeByte_39247 12 = .ok (.astore 4, 2) := by decide +kernel
theorem dJ7_copyOfRangeByte_39247_14 : decode cJ7_copyOfRangeByte_39247 14 = .ok (.aload_n 0, 1) := by decide +kernel
theorem dJ7_copyOfRangeByte_39247_15 : decode cJ7_copyOfRangeByte_39247 15 = .ok (.iload_n 1, 1) := by decide +kernel
theorem dJ7_copyOfRangeByte_39247_16 : decode cJ7_copyOfRangeByte_39247 16 = .ok (.aload 4, 2) := by decide +kernel
theorem dJ7_copyOfRangeByte_39247_18 : decode cJ7_copyOfRangeByte_39247 18 = .ok (.iconst 0, 1) := by decide +kernel
theorem dJ7_copyOfRangeByte_39247_19 : decode cJ7_copyOfRangeByte_39247 19 = .ok (.aload_n 0, 1) := by decide +kernel
theorem dJ7_copyOfRangeByte_39247_20 : decode cJ7_copyOfRangeByte_39247 20 = .ok (.arraylength, 1) := by decide +kernel
theorem dJ7_copyOfRangeByte_39247_21 : decode cJ7_copyOfRangeByte_39247 21 = .ok (.iload_n 1, 1) := by decide +kernel
theorem dJ7_copyOfRangeByte_39247_22 : decode cJ7_copyOfRangeByte_39247 22 = .ok (.isub, 1) := by decide +kernel
theorem dJ7_copyOfRangeByte_39247_23 : decode cJ7_copyOfRangeByte_39247 23 = .ok (.iload_n 3, 1) := by decide +kernel
theorem dJ7_copyOfRangeByte_39247_24 : decode cJ7_copyOfRangeByte_39247 24 = .ok (.invokestatic 304, 3) := by decide +kernel
theorem dJ7_copyOfRangeByte_39247_27 : decode cJ7_copyOfRangeByte_39247 27 = .ok (.invokestatic 150, 3) := by decide +kernel
theorem dJ7_copyOfRangeByte_39247_30 : decode cJ7_copyOfRangeByte_39247 30 = .ok (.aload 4, 2) := by decide +kernel
theorem dJ7_copyOfRangeByte_39247_32 : decode cJ7_copyOfRangeByte_39247 32 = .ok (.areturn, 1) := by decide +kernel
theorem dJ7_copyOfRange_39247_0 : decode cJ7_copyOfRange_39247 0 = .ok (.iload_n 1, 1) := by decide +kernel
theorem dJ7_copyOfRange_39247_1 : decode cJ7_copyOfRange_39247 1 = .ok (.ifCond .ne 9, 3) := by decide +kernel
theorem dJ7_copyOfRange_39247_4 : decode cJ7_copyOfRange_39247 4 = .ok (.iload_n 2, 1) := by decide +kernel
theorem dJ7_copyOfRange_39247_5 : decode cJ7_copyOfRange_39247 5 = .ok (.aload_n 0, 1) := by decide +kernel
theorem dJ7_copyOfRange_39247_6 : decode cJ7_copyOfRange_39247 6 = .ok (.arraylength, 1) := by decide +kernel
theorem dJ7_copyOfRange_39247_7 : decode cJ7_copyOfRange_39247 7 = .ok (.if_icmp .eq 10, 3) := by decide +kernel
theorem dJ7_copyOfRange_39247_10 : decode cJ7_copyOfRange_39247 10 = .ok (.aload_n 0, 1) := by decide +kernel
theorem dJ7_copyOfRange_39247_11 : decode cJ7_copyOfRange_39247 11 = .ok (.iload_n 1, 1) := by decide +kernel
theorem dJ7_copyOfRange_39247_12 : decode cJ7_copyOfRange_39247 12 = .ok (.iload_n 2, 1) := by decide +kernel
theorem dJ7_copyOfRange_39247_13 : decode cJ7_copyOfRange_39247 13 = .ok (.invokestatic 339, 3) := by decide +kernel
theorem dJ7_copyOfRange_39247_16 : decode cJ7_copyOfRange_39247 16 = .ok (.areturn, 1) := by decide +kernel
theorem dJ7_copyOfRange_39247_17 : decode cJ7_copyOfRange_39247 17 = .ok (.aload_n 0, 1) := by decide +kernel
theorem dJ7_copyOfRange_39247_18 : decode cJ7_copyOfRange_39247 18 = .ok (.invokevirtual 310, 3) := by decide +kernel
theorem dJ7_copyOfRange_39247_21 : decode cJ7_copyOfRange_39247 21 = .ok (.checkcast 311, 3) := by decide +kernel
theorem dJ7_copyOfRange_39247_24 : decode cJ7_copyOfRange_39247 24 = .ok (.areturn, 1) := by decide +kernel
theorem dX15_march_0 : decode cX15_march 0 = .ok (.aload_n 0, 1) := by decide +kernel
theorem dX15_march_1 : decode cX15_march 1 = .ok (.ldc_w 448, 3) := by decide +kernel
theorem dX15_march_4 : decode cX15_march 4 = .ok (.iload_n 1, 1) := by decide +kernel
theorem dX15_march_5 : decode cX15_march 5 = .ok (.invokevirtual 134, 3) := by decide +kernel
theorem dX15_march_8 : decode cX15_march 8 = .ok (.ifCond .ge 7, 3) := by decide +kernel
theorem dX15_march_11 : decode cX15_march 11 = .ok (.iconst 1, 1) := by decide +kernel
theorem dX15_march_12 : decode cX15_march 12 = .ok (.goto 20, 3) := by decide +kernel
theorem dX15_march_15 : decode cX15_march 15 = .ok (.aload_n 0, 1) := by decide +kernel
theorem dX15_march_16 : decode cX15_march 16 = .ok (.getfield 64, 3) := by decide +kernel
theorem dX15_march_19 : decode cX15_march 19 = .ok (.invokevirtual 450, 3) := by decide +kernel
theorem dX15_march_22 : decode cX15_march 22 = .ok (.bipush 24, 2) := by decide +kernel
theorem dX15_march_24 : decode cX15_march 24 = .ok (.if_icmp .ne 7, 3) := by decide +kernel
theorem dX15_march_27 : decode cX15_march 27 = .ok (.iconst 2, 1) := by decide +kernel
theorem dX15_march_28 : decode cX15_march 28 = .ok (.goto 4, 3) := by decide +kernel
theorem dX15_march_31 : decode cX15_march 31 = .ok (.iconst 0, 1) := by decide +kernel
theorem dX15_march_32 : decode cX15_march 32 = .ok (.invokevirtual 106, 3) := by decide +kernel
theorem dX15_march_35 : decode cX15_march 35 = .ok (.ifCond .eq 5, 3) := by decide +kernel
theorem dX15_march_38 : decode cX15_march 38 = .ok (.iconst 0, 1) := by decide +kernel
theorem dX15_march_39 : decode cX15_march 39 = .ok (.ireturn, 1) := by decide +kernel
theorem dX15_march_40 : decode cX15_march 40 = .ok (.new 453, 3) := by decide +kernel
theorem dX15_march_43 : decode cX15_march 43 = .ok (.dup, 1) := by decide +kernel
theorem dX15_march_44 : decode cX15_march 44 = .ok (.invokespecial 455, 3) := by decide +kernel
theorem dX15_march_47 : decode cX15_march 47 = .ok (.aload_n 0, 1) := by decide +kernel
theorem dX15_march_48 : decode cX15_march 48 = .ok (.dup_x1, 1) := by decide +kernel
theorem dX15_march_49 : decode cX15_march 49 = .ok (.getfield 64, 3) := by decide +kernel
theorem dX15_march_52 : decode cX15_march 52 = .ok (.invokevirtual 456, 3) := by decide +kernel
theorem dX15_march_55 : decode cX15_march 55 = .ok (.iload_n 1, 1) := by decide +kernel
theorem dX15_march_56 : decode cX15_march 56 = .ok (.invokevirtual 460, 3) := by decide +kernel
theorem dX15_march_59 : decode cX15_march 59 = .ok (.invokevirtual 463, 3) := by decide +kernel
theorem dX15_march_62 : decode cX15_march 62 = .ok (.putfield 64, 3) := by decide +kernel
theorem dX15_march_65 : decode cX15_march 65 = .ok (.aload_n 0, 1) := by decide +kernel
theorem dX15_march_66 : decode cX15_march 66 = .ok (.getfield 64, 3) := by decide +kernel
theorem dX15_march_69 : decode cX15_march 69 = .ok (.invokevirtual 450, 3) := by decide +kernel
theorem dX15_march_72 : decode cX15_march 72 = .ok (.ireturn, 1) := by decide +kernel
theorem dL_law_3128 : decode cL_law 3128 = .ok (.aload_n 1, 1) := by decide +kernel
theorem dL_law_3129 : decode cL_law 3129 = .ok (.aload_n 0, 1) := by decide +kernel
theorem dL_law_3130 : decode cL_law 3130 = .ok (.iload 5, 2) := by decide +kernel
theorem dL_law_3132 : decode cL_law 3132 = .ok (.iconst 1, 1) := by decide +kernel
theorem dL_law_3133 : decode cL_law 3133 = .ok (.iadd, 1) := by decide +kernel
theorem dL_law_3134 : decode cL_law 3134 = .ok (.iaload, 1) := by decide +kernel
theorem dL_law_3135 : decode cL_law 3135 = .ok (.i2c, 1) := by decide +kernel
theorem dL_law_3136 : decode cL_law 3136 = .ok (.aload_n 3, 1) := by decide +kernel
theorem dL_law_3137 : decode cL_law 3137 = .ok (.invokestatic 394, 3) := by decide +kernel
theorem dL_law_3140 : decode cL_law 3140 = .ok (.istore 6, 2) := by decide +kernel
theorem dL_law_3142 : decode cL_law 3142 = .ok (.aload_n 2, 1) := by decide +kernel
theorem dL_law_3143 : decode cL_law 3143 = .ok (.aload_n 0, 1) := by decide +kernel
theorem dL_law_3144 : decode cL_law 3144 = .ok (.iload 5, 2) := by decide +kernel
theorem dL_law_3146 : decode cL_law 3146 = .ok (.iconst 1, 1) := by decide +kernel
theorem dL_law_3147 : decode cL_law 3147 = .ok (.iadd, 1) := by decide +kernel
theorem dL_law_3148 : decode cL_law 3148 = .ok (.iaload, 1) := by decide +kernel
theorem dL_law_3149 : decode cL_law 3149 = .ok (.i2c, 1) := by decide +kernel
theorem dL_law_3150 : decode cL_law 3150 = .ok (.invokevirtual 397, 3) := by decide +kernel
theorem dL_law_3153 : decode cL_law 3153 = .ok (.istore 7, 2) := by decide +kernel
theorem dL_law_3155 : decode cL_law 3155 = .ok (.aload_n 2, 1) := by decide +kernel
theorem dL_law_3156 : decode cL_law 3156 = .ok (.invokevirtual 221, 3) := by decide +kernel
theorem dL_law_3159 : decode cL_law 3159 = .ok (.iload 6, 2) := by decide +kernel
theorem dL_law_3161 : decode cL_law 3161 = .ok (.if_icmp .eq 5, 3) := by decide +kernel
theorem dL_law_3166 : decode cL_law 3166 = .ok (.iload 6, 2) := by decide +kernel
theorem dL_law_3168 : decode cL_law 3168 = .ok (.ifCond .ne 15, 3) := by decide +kernel
theorem dL_law_3171 : decode cL_law 3171 = .ok (.aload_n 3, 1) := by decide +kernel
theorem dL_law_3172 : decode cL_law 3172 = .ok (.iconst 0, 1) := by decide +kernel
theorem dL_law_3173 : decode cL_law 3173 = .ok (.laload, 1) := by decide +kernel
theorem dL_law_3174 : decode cL_law 3174 = .ok (.iload 7, 2) := by decide +kernel
theorem dL_law_3176 : decode cL_law 3176 = .ok (.i2l, 1) := by decide +kernel
theorem dL_law_3177 : decode cL_law 3177 = .ok (.lcmp, 1) := by decide +kernel
theorem dL_law_3178 : decode cL_law 3178 = .ok (.ifCond .eq 5, 3) := by decide +kernel
theorem dL_law_3183 : decode cL_law 3183 = .ok (.goto 1081, 3) := by decide +kernel
set_option maxHeartbeats 4000000 in
set_option maxRecDepth 100000 in
theorem k_J0_isLatin1_aae02_v4 (l : Launch) (D : va_G) (g : Nat → ClassId) (z0 sz : Nat) (a : Nat → Nat) : Met l yJ0_isLatin1_aae02 (.code yJ0_isLatin1_aae02 cJ0_isLatin1_aae02 1 (some .boolean) :: TG) (rmk 0 0 0 0) (va_Pc [.ref (g 205)] (PP D g z0 sz [])) (va_Qi (fun (r : Int32) (u : Unit) => (r = 1) ∧ True) (fun (_ : Unit) (_ : State) => True) (va_A [] sz)) 0 0 (va_A [] sz) := by
  refine met0 (cc := cJ0_isLatin1_aae02) (n := 1) (by decide) (Nat.le_of_ble_eq_true rfl) ?_
  intro p e s m args below meth c hx hb hr hml hown ht hlocks hnm hP0 hD0 hK hZ hsz hz ls hl
  subst hsz
  have hA : ∀ q : Nat, s.heap.size ≤ q → va_A [] s.heap.size q := Anw
  have hAz : ∀ q, va_A [] s.heap.size q → z0 ≤ q := A0z hz
  have hS : va_S (va_A [] s.heap.size) s.heap s.heap [] := va_S.rf
  have hl : lv_has ls 1 [(0, .ref (g 205))] := hl
  refine va_gets (C := "java/lang/String") (n := "COMPACT_STRINGS") (d := "Z") (v := .int 1) hx hb (hZ.m hAz).2.2.2.1 hS hown (ht _ w_388) (fun _ h9 => h9) dJ0_isLatin1_aae02_0 ?_
  refine lv_if_eq (tgt := 17) hx hb dJ0_isLatin1_aae02_3 (by decide) (fun c_1 => ?_) (fun c_1 => ?_)
  · exact absurd c_1 (by decide)
  · refine lv_aload_n hx hb dJ0_isLatin1_aae02_6 rfl (lv_at hl 0 rfl) ?_
    refine vk_getf (v := .int 0) hx hb ((hZ.m hAz).2.2.1.1 5 (by decide)).2.1 hS hown (ht _ w_389) (fun _ h9 => h9) dJ0_isLatin1_aae02_7 ?_
    refine lv_if_ne (tgt := 17) hx hb dJ0_isLatin1_aae02_10 (by decide) (fun c_2 => ?_) (fun c_2 => ?_)
    · exact absurd c_2 (by decide)
    · refine lv_iconst (v := 1) hx hb dJ0_isLatin1_aae02_13 (by decide) ?_
      refine lv_goto (tgt := 18) hx hb dJ0_isLatin1_aae02_14 (by decide) ?_
      refine W.widen (k := 0) (n := 0) (Nat.le_of_ble_eq_true rfl) (Nat.le_of_ble_eq_true rfl) ?_
      exact W.zret (v := 1) hx hb hr rfl (fun t ht9 hW9 => ⟨⟨1, (), rfl, ⟨rfl, trivial⟩, trivial⟩, hS.F ht9⟩) hS.2.2 dJ0_isLatin1_aae02_18 hlocks
set_option maxHeartbeats 4000000 in
set_option maxRecDepth 100000 in
theorem k_J0_coder_7d493_v5 (l : Launch) (D : va_G) (g : Nat → ClassId) (z0 sz : Nat) (a : Nat → Nat) : Met l yJ0_coder_7d493 (.code yJ0_coder_7d493 cJ0_coder_7d493 1 (some .byte) :: TG) (rmk 0 0 0 0) (va_Pc [.ref (g 205)] (PP D g z0 sz [])) (va_Qi (fun (r : Int32) (u : Unit) => (r = 0) ∧ True) (fun (_ : Unit) (_ : State) => True) (va_A [] sz)) 0 0 (va_A [] sz) := by
  refine met0 (cc := cJ0_coder_7d493) (n := 1) (by decide) (Nat.le_of_ble_eq_true rfl) ?_
  intro p e s m args below meth c hx hb hr hml hown ht hlocks hnm hP0 hD0 hK hZ hsz hz ls hl
  subst hsz
  have hA : ∀ q : Nat, s.heap.size ≤ q → va_A [] s.heap.size q := Anw
  have hAz : ∀ q, va_A [] s.heap.size q → z0 ≤ q := A0z hz
  have hS : va_S (va_A [] s.heap.size) s.heap s.heap [] := va_S.rf
  have hl : lv_has ls 1 [(0, .ref (g 205))] := hl
  refine va_gets (C := "java/lang/String") (n := "COMPACT_STRINGS") (d := "Z") (v := .int 1) hx hb (hZ.m hAz).2.2.2.1 hS hown (ht _ w_388) (fun _ h9 => h9) dJ0_coder_7d493_0 ?_
  refine lv_if_eq (tgt := 13) hx hb dJ0_coder_7d493_3 (by decide) (fun c_1 => ?_) (fun c_1 => ?_)
  · exact absurd c_1 (by decide)
  · refine lv_aload_n hx hb dJ0_coder_7d493_6 rfl (lv_at hl 0 rfl) ?_
    refine vk_getf (v := .int 0) hx hb ((hZ.m hAz).2.2.1.1 5 (by decide)).2.1 hS hown (ht _ w_389) (fun _ h9 => h9) dJ0_coder_7d493_7 ?_
    refine lv_goto (tgt := 14) hx hb dJ0_coder_7d493_10 (by decide) ?_
    refine W.widen (k := 0) (n := 0) (Nat.le_of_ble_eq_true rfl) (Nat.le_of_ble_eq_true rfl) ?_
    exact W.zret (v := 0) hx hb hr rfl (fun t ht9 hW9 => ⟨⟨0, (), rfl, ⟨rfl, trivial⟩, trivial⟩, hS.F ht9⟩) hS.2.2 dJ0_coder_7d493_14 hlocks
set_option maxHeartbeats 4000000 in
set_option maxRecDepth 100000 in
theorem k_J0_length_8abf5_v5 (l : Launch) (D : va_G) (g : Nat → ClassId) (z0 sz : Nat) (a : Nat → Nat) : Met l yJ0_length_8abf5 (.code yJ0_length_8abf5 cJ0_length_8abf5 1 (some .int) :: TG) (rmk 1 0 0 20) (va_Pc [.ref (g 205)] (PP D g z0 sz [])) (va_Qi (fun (r : Int32) (u : Unit) => (r = 6) ∧ True) (fun (_ : Unit) (_ : State) => True) (va_A [] sz)) 0 0 (va_A [] sz) := by
  refine met0 (cc := cJ0_length_8abf5) (n := 1) (by decide) (Nat.le_of_ble_eq_true rfl) ?_
  intro p e s m args below meth c hx hb hr hml hown ht hlocks hnm hP0 hD0 hK hZ hsz hz ls hl
  subst hsz
  have hA : ∀ q : Nat, s.heap.size ≤ q → va_A [] s.heap.size q := Anw
  have hAz : ∀ q, va_A [] s.heap.size q → z0 ≤ q := A0z hz
  have hS : va_S (va_A [] s.heap.size) s.heap s.heap [] := va_S.rf
  have hl : lv_has ls 1 [(0, .ref (g 205))] := hl
  refine lv_aload_n hx hb dJ0_length_8abf5_0 rfl (lv_at hl 0 rfl) ?_
  refine vk_getf (v := .ref (g 305)) hx hb ((hZ.m hAz).2.2.1.1 5 (by decide)).2.2.1 hS hown (ht _ w_395) (fun _ h9 => h9) dJ0_length_8abf5_1 ?_
  refine va_tlen (v := 6) hx hb ((hZ.m hAz).2.2.1.1 5 (by decide)).2.2.2 hS rfl dJ0_length_8abf5_4 ?_
  refine lv_aload_n hx hb dJ0_length_8abf5_5 rfl (lv_at hl 0 rfl) ?_
  have hPc : va_P D vwCl [] _ := (ro0 hP0 hS).sub (ws' := []) [] rfl
  have hDc : va_D (fun q => z0 ≤ q) [] := hD0.pick (ws' := []) [] (by decide) rfl
  have hFc := AnA (ws := []) hS.1
  refine va_calli (va_runV (As := []) (rest := [.int 6]) ⟨hx, hb, hml, hown, ht⟩ (k_J0_coder_7d493_v5 l D g z0 _ a) (cwV 0 ht (gV w_396 w_398 w_399 w_394 w_397) rfl rfl rfl (by decide +kernel) (le2 rfl rfl)) ⟨PP.blind, vk_recv (i := 5) (hZ.m hAz).2.2.1 (by decide) hS, PP.mk' hK hZ hz hAz hS hPc hDc⟩ rfl rfl hl.1 rfl (lv_room (Nat.le_of_ble_eq_true rfl)) dJ0_length_8abf5_6 (le2 rfl rfl)) hS (fun q _ h => hFc q h) hFc (fun r u t H locs ht1 hvm hw hB hz1 hk1 hS => ?_)
  obtain ⟨rfl, hw⟩ := hw
  refine lv_ishr hx hb dJ0_length_8abf5_9 ?_
  refine r_topi (v := 6) (by decide) ?_
  refine W.widen (k := 0) (n := 0) (Nat.le_of_ble_eq_true rfl) (Nat.le_of_ble_eq_true rfl) ?_
  exact W.iret (v := 6) hx hb hr (fun t ht9 hW9 => ⟨⟨6, (), rfl, ⟨rfl, trivial⟩, trivial⟩, hS.F ht9⟩) hS.2.2 dJ0_length_8abf5_10 hlocks
set_option maxHeartbeats 4000000 in
set_option maxRecDepth 100000 in
theorem k_J1_indexOfChar_4cfef_v4 (l : Launch) (D : va_G) (g : Nat → ClassId) (z0 sz : Nat) (a : Nat → Nat) (p0 : Int32) : Met l yJ1_indexOfChar_4cfef (.code yJ1_indexOfChar_4cfef cJ1_indexOfChar_4cfef 6 (some .int) :: TG) (rmk 0 0 0 0) (va_Pc [.ref (g 305), .int p0, .int 0, .int 6] (PP D g z0 sz [])) (va_Qi (fun (r : Int32) (u : Unit) => ((r = (-1)) ∧ ((¬ 94 = p0.toInt8.toInt32) ∧ (¬ 118 = p0.toInt8.toInt32) ∧ (¬ 48 = p0.toInt8.toInt32) ∧ (¬ 49 = p0.toInt8.toInt32) ∧ (¬ 122 = p0.toInt8.toInt32) ∧ (¬ 111 = p0.toInt8.toInt32))) ∨ ((r = 5) ∧ ((¬ 94 = p0.toInt8.toInt32) ∧ (¬ 118 = p0.toInt8.toInt32) ∧ (¬ 48 = p0.toInt8.toInt32) ∧ (¬ 49 = p0.toInt8.toInt32) ∧ (¬ 122 = p0.toInt8.toInt32) ∧ (111 = p0.toInt8.toInt32))) ∨ ((r = 4) ∧ ((¬ 94 = p0.toInt8.toInt32) ∧ (¬ 118 = p0.toInt8.toInt32) ∧ (¬ 48 = p0.toInt8.toInt32) ∧ (¬ 49 = p0.toInt8.toInt32) ∧ (122 = p0.toInt8.toInt32))) ∨ ((r = 3) ∧ ((¬ 94 = p0.toInt8.toInt32) ∧ (¬ 118 = p0.toInt8.toInt32) ∧ (¬ 48 = p0.toInt8.toInt32) ∧ (49 = p0.toInt8.toInt32))) ∨ ((r = 2) ∧ ((¬ 94 = p0.toInt8.toInt32) ∧ (¬ 118 = p0.toInt8.toInt32) ∧ (48 = p0.toInt8.toInt32))) ∨ ((r = 1) ∧ ((¬ 94 = p0.toInt8.toInt32) ∧ (118 = p0.toInt8.toInt32))) ∨ ((r = 0) ∧ (94 = p0.toInt8.toInt32))) (fun (_ : Unit) (_ : State) => True) (va_A [] sz)) 0 0 (va_A [] sz) := by
  refine met0 (cc := cJ1_indexOfChar_4cfef) (n := 6) (by decide) (Nat.le_of_ble_eq_true rfl) ?_
  intro p e s m args below meth c hx hb hr hml hown ht hlocks hnm hP0 hD0 hK hZ hsz hz ls hl
  subst hsz
  have hA : ∀ q : Nat, s.heap.size ≤ q → va_A [] s.heap.size q := Anw
  have hAz : ∀ q, va_A [] s.heap.size q → z0 ≤ q := A0z hz
  have hS : va_S (va_A [] s.heap.size) s.heap s.heap [] := va_S.rf
  have hl : lv_has ls 6 [(0, .ref (g 305)), (1, .int p0), (2, .int 0), (3, .int 6)] := hl
  refine lv_iload_n hx hb dJ1_indexOfChar_4cfef_0 rfl (lv_at hl 1 rfl) ?_
  refine lv_i2b (v := p0.toInt8.toInt32) hx hb dJ1_indexOfChar_4cfef_1 rfl ?_
  refine lv_istore (lv' := [(4, .int p0.toInt8.toInt32), (0, .ref (g 305)), (1, .int p0), (2, .int 0), (3, .int 6)]) hx hb dJ1_indexOfChar_4cfef_2 hl (by decide) rfl (fun ls hl => ?_)
  refine lv_iload_n hx hb dJ1_indexOfChar_4cfef_4 rfl (lv_at hl 3 rfl) ?_
  refine lv_istore (lv' := [(5, .int 0), (4, .int p0.toInt8.toInt32), (0, .ref (g 305)), (1, .int p0), (2, .int 0), (3, .int 6)]) hx hb dJ1_indexOfChar_4cfef_5 hl (by decide) rfl (fun ls hl => ?_)
  refine lv_iload hx hb dJ1_indexOfChar_4cfef_7 (lv_at hl 0 rfl) ?_
  refine lv_iload_n hx hb dJ1_indexOfChar_4cfef_9 rfl (lv_at hl 5 rfl) ?_
  refine lv_icmp_ge (tgt := 31) hx hb dJ1_indexOfChar_4cfef_10 (by decide) (fun c_1 => ?_) (fun c_1 => ?_)
  · exact absurd c_1 (by decide)
  · refine lv_aload_n hx hb dJ1_indexOfChar_4cfef_13 rfl (lv_at hl 2 rfl) ?_
    refine lv_iload hx hb dJ1_indexOfChar_4cfef_14 (lv_at hl 0 rfl) ?_
    refine va_tb (v := .int 94) hx hb ((hZ.m hAz).2.2.1.1 5 (by decide)).2.2.2 hS (by unfold vp_in; decide) rfl dJ1_indexOfChar_4cfef_16 ?_
    refine lv_iload hx hb dJ1_indexOfChar_4cfef_17 (lv_at hl 1 rfl) ?_
    refine lv_icmp_ne (tgt := 25) hx hb dJ1_indexOfChar_4cfef_19 (by decide) (fun c_2 => ?_) (fun c_2 => ?_)
    · refine lv_iinc (v := 1) (lv' := [(5, .int 1), (4, .int p0.toInt8.toInt32), (0, .ref (g 305)), (1, .int p0), (2, .int 0), (3, .int 6)]) hx hb dJ1_indexOfChar_4cfef_25 hl (k := 0) rfl (by decide) (by decide) rfl (fun ls hl => ?_)
      refine lv_goto (tgt := 7) hx hb dJ1_indexOfChar_4cfef_28 (by decide) ?_
      refine lv_iload hx hb dJ1_indexOfChar_4cfef_7 (lv_at hl 0 rfl) ?_
      refine lv_iload_n hx hb dJ1_indexOfChar_4cfef_9 rfl (lv_at hl 5 rfl) ?_
      refine lv_icmp_ge (tgt := 31) hx hb dJ1_indexOfChar_4cfef_10 (by decide) (fun c_3 => ?_) (fun c_3 => ?_)
      · exact absurd c_3 (by decide)
      · refine lv_aload_n hx hb dJ1_indexOfChar_4cfef_13 rfl (lv_at hl 2 rfl) ?_
        refine lv_iload hx hb dJ1_indexOfChar_4cfef_14 (lv_at hl 0 rfl) ?_
        refine va_tb (v := .int 118) hx hb ((hZ.m hAz).2.2.1.1 5 (by decide)).2.2.2 hS (by unfold vp_in; decide) rfl dJ1_indexOfChar_4cfef_16 ?_
        refine lv_iload hx hb dJ1_indexOfChar_4cfef_17 (lv_at hl 1 rfl) ?_
        refine lv_icmp_ne (tgt := 25) hx hb dJ1_indexOfChar_4cfef_19 (by decide) (fun c_4 => ?_) (fun c_4 => ?_)
        · refine lv_iinc (v := 2) (lv' := [(5, .int 2), (4, .int p0.toInt8.toInt32), (0, .ref (g 305)), (1, .int p0), (2, .int 0), (3, .int 6)]) hx hb dJ1_indexOfChar_4cfef_25 hl (k := 0) rfl (by decide) (by decide) rfl (fun ls hl => ?_)
          refine lv_goto (tgt := 7) hx hb dJ1_indexOfChar_4cfef_28 (by decide) ?_
          refine lv_iload hx hb dJ1_indexOfChar_4cfef_7 (lv_at hl 0 rfl) ?_
          refine lv_iload_n hx hb dJ1_indexOfChar_4cfef_9 rfl (lv_at hl 5 rfl) ?_
          refine lv_icmp_ge (tgt := 31) hx hb dJ1_indexOfChar_4cfef_10 (by decide) (fun c_5 => ?_) (fun c_5 => ?_)
          · exact absurd c_5 (by decide)
          · refine lv_aload_n hx hb dJ1_indexOfChar_4cfef_13 rfl (lv_at hl 2 rfl) ?_
            refine lv_iload hx hb dJ1_indexOfChar_4cfef_14 (lv_at hl 0 rfl) ?_
            refine va_tb (v := .int 48) hx hb ((hZ.m hAz).2.2.1.1 5 (by decide)).2.2.2 hS (by unfold vp_in; decide) rfl dJ1_indexOfChar_4cfef_16 ?_
            refine lv_iload hx hb dJ1_indexOfChar_4cfef_17 (lv_at hl 1 rfl) ?_
            refine lv_icmp_ne (tgt := 25) hx hb dJ1_indexOfChar_4cfef_19 (by decide) (fun c_6 => ?_) (fun c_6 => ?_)
            · refine lv_iinc (v := 3) (lv' := [(5, .int 3), (4, .int p0.toInt8.toInt32), (0, .ref (g 305)), (1, .int p0), (2, .int 0), (3, .int 6)]) hx hb dJ1_indexOfChar_4cfef_25 hl (k := 0) rfl (by decide) (by decide) rfl (fun ls hl => ?_)
              refine lv_goto (tgt := 7) hx hb dJ1_indexOfChar_4cfef_28 (by decide) ?_
              refine lv_iload hx hb dJ1_indexOfChar_4cfef_7 (lv_at hl 0 rfl) ?_
              refine lv_iload_n hx hb dJ1_indexOfChar_4cfef_9 rfl (lv_at hl 5 rfl) ?_
              refine lv_icmp_ge (tgt := 31) hx hb dJ1_indexOfChar_4cfef_10 (by decide) (fun c_7 => ?_) (fun c_7 => ?_)
              · exact absurd c_7 (by decide)
              · refine lv_aload_n hx hb dJ1_indexOfChar_4cfef_13 rfl (lv_at hl 2 rfl) ?_
                refine lv_iload hx hb dJ1_indexOfChar_4cfef_14 (lv_at hl 0 rfl) ?_
                refine va_tb (v := .int 49) hx hb ((hZ.m hAz).2.2.1.1 5 (by decide)).2.2.2 hS (by unfold vp_in; decide) rfl dJ1_indexOfChar_4cfef_16 ?_
                refine lv_iload hx hb dJ1_indexOfChar_4cfef_17 (lv_at hl 1 rfl) ?_
                refine lv_icmp_ne (tgt := 25) hx hb dJ1_indexOfChar_4cfef_19 (by decide) (fun c_8 => ?_) (fun c_8 => ?_)
                · refine lv_iinc (v := 4) (lv' := [(5, .int 4), (4, .int p0.toInt8.toInt32), (0, .ref (g 305)), (1, .int p0), (2, .int 0), (3, .int 6)]) hx hb dJ1_indexOfChar_4cfef_25 hl (k := 0) rfl (by decide) (by decide) rfl (fun ls hl => ?_)
                  refine lv_goto (tgt := 7) hx hb dJ1_indexOfChar_4cfef_28 (by decide) ?_
                  refine lv_iload hx hb dJ1_indexOfChar_4cfef_7 (lv_at hl 0 rfl) ?_
                  refine lv_iload_n hx hb dJ1_indexOfChar_4cfef_9 rfl (lv_at hl 5 rfl) ?_
                  refine lv_icmp_ge (tgt := 31) hx hb dJ1_indexOfChar_4cfef_10 (by decide) (fun c_9 => ?_) (fun c_9 => ?_)
                  · exact absurd c_9 (by decide)
                  · refine lv_aload_n hx hb dJ1_indexOfChar_4cfef_13 rfl (lv_at hl 2 rfl) ?_
                    refine lv_iload hx hb dJ1_indexOfChar_4cfef_14 (lv_at hl 0 rfl) ?_
                    refine va_tb (v := .int 122) hx hb ((hZ.m hAz).2.2.1.1 5 (by decide)).2.2.2 hS (by unfold vp_in; decide) rfl dJ1_indexOfChar_4cfef_16 ?_
                    refine lv_iload hx hb dJ1_indexOfChar_4cfef_17 (lv_at hl 1 rfl) ?_
                    refine lv_icmp_ne (tgt := 25) hx hb dJ1_indexOfChar_4cfef_19 (by decide) (fun c_10 => ?_) (fun c_10 => ?_)
                    · refine lv_iinc (v := 5) (lv' := [(5, .int 5), (4, .int p0.toInt8.toInt32), (0, .ref (g 305)), (1, .int p0), (2, .int 0), (3, .int 6)]) hx hb dJ1_indexOfChar_4cfef_25 hl (k := 0) rfl (by decide) (by decide) rfl (fun ls hl => ?_)
                      refine lv_goto (tgt := 7) hx hb dJ1_indexOfChar_4cfef_28 (by decide) ?_
                      refine lv_iload hx hb dJ1_indexOfChar_4cfef_7 (lv_at hl 0 rfl) ?_
                      refine lv_iload_n hx hb dJ1_indexOfChar_4cfef_9 rfl (lv_at hl 5 rfl) ?_
                      refine lv_icmp_ge (tgt := 31) hx hb dJ1_indexOfChar_4cfef_10 (by decide) (fun c_11 => ?_) (fun c_11 => ?_)
                      · exact absurd c_11 (by decide)
                      · refine lv_aload_n hx hb dJ1_indexOfChar_4cfef_13 rfl (lv_at hl 2 rfl) ?_
                        refine lv_iload hx hb dJ1_indexOfChar_4cfef_14 (lv_at hl 0 rfl) ?_
                        refine va_tb (v := .int 111) hx hb ((hZ.m hAz).2.2.1.1 5 (by decide)).2.2.2 hS (by unfold vp_in; decide) rfl dJ1_indexOfChar_4cfef_16 ?_
                        refine lv_iload hx hb dJ1_indexOfChar_4cfef_17 (lv_at hl 1 rfl) ?_
                        refine lv_icmp_ne (tgt := 25) hx hb dJ1_indexOfChar_4cfef_19 (by decide) (fun c_12 => ?_) (fun c_12 => ?_)
                        · refine lv_iinc (v := 6) (lv' := [(5, .int 6), (4, .int p0.toInt8.toInt32), (0, .ref (g 305)), (1, .int p0), (2, .int 0), (3, .int 6)]) hx hb dJ1_indexOfChar_4cfef_25 hl (k := 0) rfl (by decide) (by decide) rfl (fun ls hl => ?_)
                          refine lv_goto (tgt := 7) hx hb dJ1_indexOfChar_4cfef_28 (by decide) ?_
                          refine lv_iload hx hb dJ1_indexOfChar_4cfef_7 (lv_at hl 0 rfl) ?_
                          refine lv_iload_n hx hb dJ1_indexOfChar_4cfef_9 rfl (lv_at hl 5 rfl) ?_
                          refine lv_icmp_ge (tgt := 31) hx hb dJ1_indexOfChar_4cfef_10 (by decide) (fun c_13 => ?_) (fun c_13 => ?_)
                          · refine lv_iconst (v := (-1)) hx hb dJ1_indexOfChar_4cfef_31 (by decide) ?_
                            refine W.widen (k := 0) (n := 0) (Nat.le_of_ble_eq_true rfl) (Nat.le_of_ble_eq_true rfl) ?_
                            exact W.iret (v := (-1)) hx hb hr (fun t ht9 hW9 => ⟨⟨(-1), (), rfl, (Or.inl ⟨rfl, ⟨c_2, c_4, c_6, c_8, c_10, c_12⟩⟩), trivial⟩, hS.F ht9⟩) hS.2.2 dJ1_indexOfChar_4cfef_32 hlocks
                          · exact absurd c_13 (by decide)
                        · refine lv_iload hx hb dJ1_indexOfChar_4cfef_22 (lv_at hl 0 rfl) ?_
                          refine W.widen (k := 0) (n := 0) (Nat.le_of_ble_eq_true rfl) (Nat.le_of_ble_eq_true rfl) ?_
                          exact W.iret (v := 5) hx hb hr (fun t ht9 hW9 => ⟨⟨5, (), rfl, (Or.inr (Or.inl ⟨rfl, ⟨c_2, c_4, c_6, c_8, c_10, c_12⟩⟩)), trivial⟩, hS.F ht9⟩) hS.2.2 dJ1_indexOfChar_4cfef_24 hlocks
                    · refine lv_iload hx hb dJ1_indexOfChar_4cfef_22 (lv_at hl 0 rfl) ?_
                      refine W.widen (k := 0) (n := 0) (Nat.le_of_ble_eq_true rfl) (Nat.le_of_ble_eq_true rfl) ?_
                      exact W.iret (v := 4) hx hb hr (fun t ht9 hW9 => ⟨⟨4, (), rfl, (Or.inr (Or.inr (Or.inl ⟨rfl, ⟨c_2, c_4, c_6, c_8, c_10⟩⟩))), trivial⟩, hS.F ht9⟩) hS.2.2 dJ1_indexOfChar_4cfef_24 hlocks
                · refine lv_iload hx hb dJ1_indexOfChar_4cfef_22 (lv_at hl 0 rfl) ?_
                  refine W.widen (k := 0) (n := 0) (Nat.le_of_ble_eq_true rfl) (Nat.le_of_ble_eq_true rfl) ?_
                  exact W.iret (v := 3) hx hb hr (fun t ht9 hW9 => ⟨⟨3, (), rfl, (Or.inr (Or.inr (Or.inr (Or.inl ⟨rfl, ⟨c_2, c_4, c_6, c_8⟩⟩)))), trivial⟩, hS.F ht9⟩) hS.2.2 dJ1_indexOfChar_4cfef_24 hlocks
            · refine lv_iload hx hb dJ1_indexOfChar_4cfef_22 (lv_at hl 0 rfl) ?_
              refine W.widen (k := 0) (n := 0) (Nat.le_of_ble_eq_true rfl) (Nat.le_of_ble_eq_true rfl) ?_
              exact W.iret (v := 2) hx hb hr (fun t ht9 hW9 => ⟨⟨2, (), rfl, (Or.inr (Or.inr (Or.inr (Or.inr (Or.inl ⟨rfl, ⟨c_2, c_4, c_6⟩⟩))))), trivial⟩, hS.F ht9⟩) hS.2.2 dJ1_indexOfChar_4cfef_24 hlocks
        · refine lv_iload hx hb dJ1_indexOfChar_4cfef_22 (lv_at hl 0 rfl) ?_
          refine W.widen (k := 0) (n := 0) (Nat.le_of_ble_eq_true rfl) (Nat.le_of_ble_eq_true rfl) ?_
          exact W.iret (v := 1) hx hb hr (fun t ht9 hW9 => ⟨⟨1, (), rfl, (Or.inr (Or.inr (Or.inr (Or.inr (Or.inr (Or.inl ⟨rfl, ⟨c_2, c_4⟩⟩)))))), trivial⟩, hS.F ht9⟩) hS.2.2 dJ1_indexOfChar_4cfef_24 hlocks
    · refine lv_iload hx hb dJ1_indexOfChar_4cfef_22 (lv_at hl 0 rfl) ?_
      refine W.widen (k := 0) (n := 0) (Nat.le_of_ble_eq_true rfl) (Nat.le_of_ble_eq_true rfl) ?_
      exact W.iret (v := 0) hx hb hr (fun t ht9 hW9 => ⟨⟨0, (), rfl, (Or.inr (Or.inr (Or.inr (Or.inr (Or.inr (Or.inr ⟨rfl, c_2⟩)))))), trivial⟩, hS.F ht9⟩) hS.2.2 dJ1_indexOfChar_4cfef_24 hlocks
set_option maxHeartbeats 4000000 in
set_option maxRecDepth 100000 in
theorem k_J1_indexOf_4cfef_v4 (l : Launch) (D : va_G) (g : Nat → ClassId) (z0 sz : Nat) (a : Nat → Nat) (p0 : Int32) : Met l yJ1_indexOf_4cfef (.code yJ1_indexOf_4cfef cJ1_indexOf_4cfef 4 (some .int) :: TG) (rmk 1 0 0 25) (va_Pc [.ref (g 305), .int p0, .int 0, .int 6] (PP D g z0 sz [])) (va_Qi (fun (r : Int32) (u : Unit) => ((r = (-1)) ∧ ((p0 < 0) ∨ ((¬ p0 < 0) ∧ ((255 : Int32) < p0)) ∨ ((¬ p0 < 0) ∧ (¬ (255 : Int32) < p0) ∧ (¬ 94 = p0.toInt8.toInt32) ∧ (¬ 118 = p0.toInt8.toInt32) ∧ (¬ 48 = p0.toInt8.toInt32) ∧ (¬ 49 = p0.toInt8.toInt32) ∧ (¬ 122 = p0.toInt8.toInt32) ∧ (¬ 111 = p0.toInt8.toInt32)))) ∨ ((r = 5) ∧ ((¬ p0 < 0) ∧ (¬ (255 : Int32) < p0) ∧ (¬ 94 = p0.toInt8.toInt32) ∧ (¬ 118 = p0.toInt8.toInt32) ∧ (¬ 48 = p0.toInt8.toInt32) ∧ (¬ 49 = p0.toInt8.toInt32) ∧ (¬ 122 = p0.toInt8.toInt32) ∧ (111 = p0.toInt8.toInt32))) ∨ ((r = 4) ∧ ((¬ p0 < 0) ∧ (¬ (255 : Int32) < p0) ∧ (¬ 94 = p0.toInt8.toInt32) ∧ (¬ 118 = p0.toInt8.toInt32) ∧ (¬ 48 = p0.toInt8.toInt32) ∧ (¬ 49 = p0.toInt8.toInt32) ∧ (122 = p0.toInt8.toInt32))) ∨ ((r = 3) ∧ ((¬ p0 < 0) ∧ (¬ (255 : Int32) < p0) ∧ (¬ 94 = p0.toInt8.toInt32) ∧ (¬ 118 = p0.toInt8.toInt32) ∧ (¬ 48 = p0.toInt8.toInt32) ∧ (49 = p0.toInt8.toInt32))) ∨ ((r = 2) ∧ ((¬ p0 < 0) ∧ (¬ (255 : Int32) < p0) ∧ (¬ 94 = p0.toInt8.toInt32) ∧ (¬ 118 = p0.toInt8.toInt32) ∧ (48 = p0.toInt8.toInt32))) ∨ ((r = 1) ∧ ((¬ p0 < 0) ∧ (¬ (255 : Int32) < p0) ∧ (¬ 94 = p0.toInt8.toInt32) ∧ (118 = p0.toInt8.toInt32))) ∨ ((r = 0) ∧ ((¬ p0 < 0) ∧ (¬ (255 : Int32) < p0) ∧ (94 = p0.toInt8.toInt32)))) (fun (_ : Unit) (_ : State) => True) (va_A [] sz)) 0 0 (va_A [] sz) := by
  refine met0 (cc := cJ1_indexOf_4cfef) (n := 4) (by decide) (Nat.le_of_ble_eq_true rfl) ?_
  intro p e s m args below meth c hx hb hr hml hown ht hlocks hnm hP0 hD0 hK hZ hsz hz ls hl
  subst hsz
  have hA : ∀ q : Nat, s.heap.size ≤ q → va_A [] s.heap.size q := Anw
  have hAz : ∀ q, va_A [] s.heap.size q → z0 ≤ q := A0z hz
  have hS : va_S (va_A [] s.heap.size) s.heap s.heap [] := va_S.rf
  have hl : lv_has ls 4 [(0, .ref (g 305)), (1, .int p0), (2, .int 0), (3, .int 6)] := hl
  refine lv_iload_n hx hb dJ1_indexOf_4cfef_0 rfl (lv_at hl 1 rfl) ?_
  have hPc : va_P D vwCl [] _ := (ro0 hP0 hS).sub (ws' := []) [] rfl
  have hDc : va_D (fun q => z0 ≤ q) [] := hD0.pick (ws' := []) [] (by decide) rfl
  have hFc := AnA (ws := []) hS.1
  refine va_calli (va_runS (As := [.int p0]) (rest := []) ⟨hx, hb, hml, hown, ht⟩ (k_J1_canEncode_9a6ad l D g z0 _ a p0) (va_cwS 1 ht (gS w_404 w_406 w_407 w_405) rfl rfl rfl (by decide +kernel) (le2 rfl rfl)) ⟨PP.blind, PP.mk' hK hZ hz hAz hS hPc hDc⟩ rfl rfl hl.1 rfl (lv_room (Nat.le_of_ble_eq_true rfl)) dJ1_indexOf_4cfef_1 (le2 rfl rfl)) hS (fun q _ h => hFc q h) hFc (fun r u t H locs ht1 hvm hw hB hz1 hk1 hS => ?_)
  rcases hw with hw | hw
  · obtain ⟨rfl, hw⟩ := hw
    rcases hw with hw | hw
    · have c_1 := hw
      refine lv_if_ne (tgt := 9) hx hb dJ1_indexOf_4cfef_4 (by decide) (fun c_2 => ?_) (fun c_2 => ?_)
      · exact absurd c_2 (by decide)
      · refine lv_iconst (v := (-1)) hx hb dJ1_indexOf_4cfef_7 (by decide) ?_
        refine W.widen (k := 0) (n := 0) (Nat.le_of_ble_eq_true rfl) (Nat.le_of_ble_eq_true rfl) ?_
        exact W.iret (v := (-1)) hx hb hr (fun t ht9 hW9 => ⟨⟨(-1), (), rfl, (Or.inl ⟨rfl, (Or.inl c_1)⟩), trivial⟩, hS.F ht9⟩) hS.2.2 dJ1_indexOf_4cfef_8 hlocks
    · obtain ⟨c_3, c_4⟩ := hw
      refine lv_if_ne (tgt := 9) hx hb dJ1_indexOf_4cfef_4 (by decide) (fun c_5 => ?_) (fun c_5 => ?_)
      · exact absurd c_5 (by decide)
      · refine lv_iconst (v := (-1)) hx hb dJ1_indexOf_4cfef_7 (by decide) ?_
        refine W.widen (k := 0) (n := 0) (Nat.le_of_ble_eq_true rfl) (Nat.le_of_ble_eq_true rfl) ?_
        exact W.iret (v := (-1)) hx hb hr (fun t ht9 hW9 => ⟨⟨(-1), (), rfl, (Or.inl ⟨rfl, (Or.inr (Or.inl ⟨c_3, c_4⟩))⟩), trivial⟩, hS.F ht9⟩) hS.2.2 dJ1_indexOf_4cfef_8 hlocks
  · obtain ⟨rfl, hw⟩ := hw
    obtain ⟨c_6, c_7⟩ := hw
    refine lv_if_ne (tgt := 9) hx hb dJ1_indexOf_4cfef_4 (by decide) (fun c_8 => ?_) (fun c_8 => ?_)
    · refine lv_iload_n hx hb dJ1_indexOf_4cfef_9 rfl (lv_at hl 2 rfl) ?_
      refine lv_iconst (v := 0) hx hb dJ1_indexOf_4cfef_10 (by decide) ?_
      refine va_mmax hx hb (hml.trans hl.1.symm) hown (ht _ w_408) (ht _ w_409) (ht _ w_410) (ht _ w_411) (Nat.le_of_ble_eq_true rfl) (Nat.le_of_ble_eq_true rfl) (Nat.le_of_ble_eq_true rfl) (Nat.le_of_ble_eq_true rfl) dJ1_indexOf_4cfef_11 ?_
      refine r_topi (v := 0) (by decide) ?_
      refine lv_istore_n (lv' := [(2, .int 0), (0, .ref (g 305)), (1, .int p0), (3, .int 6)]) hx hb dJ1_indexOf_4cfef_14 rfl hl (by decide) rfl (fun ls hl => ?_)
      refine lv_iload_n hx hb dJ1_indexOf_4cfef_15 rfl (lv_at hl 3 rfl) ?_
      refine lv_aload_n hx hb dJ1_indexOf_4cfef_16 rfl (lv_at hl 1 rfl) ?_
      refine va_tlen (v := 6) hx hb ((hZ.m hAz).2.2.1.1 5 (by decide)).2.2.2 hS rfl dJ1_indexOf_4cfef_17 ?_
      refine va_mmin hx hb (hml.trans hl.1.symm) hown (ht _ w_412) (ht _ w_413) (ht _ w_410) (ht _ w_414) (Nat.le_of_ble_eq_true rfl) (Nat.le_of_ble_eq_true rfl) (Nat.le_of_ble_eq_true rfl) (Nat.le_of_ble_eq_true rfl) dJ1_indexOf_4cfef_18 ?_
      refine r_topi (v := 6) (by decide) ?_
      refine lv_istore_n (lv' := [(3, .int 6), (2, .int 0), (0, .ref (g 305)), (1, .int p0)]) hx hb dJ1_indexOf_4cfef_21 rfl hl (by decide) rfl (fun ls hl => ?_)
      refine lv_iload_n hx hb dJ1_indexOf_4cfef_22 rfl (lv_at hl 1 rfl) ?_
      refine lv_iload_n hx hb dJ1_indexOf_4cfef_23 rfl (lv_at hl 0 rfl) ?_
      refine lv_icmp_lt (tgt := 29) hx hb dJ1_indexOf_4cfef_24 (by decide) (fun c_9 => ?_) (fun c_9 => ?_)
      · refine lv_aload_n hx hb dJ1_indexOf_4cfef_29 rfl (lv_at hl 2 rfl) ?_
        refine lv_iload_n hx hb dJ1_indexOf_4cfef_30 rfl (lv_at hl 3 rfl) ?_
        refine lv_iload_n hx hb dJ1_indexOf_4cfef_31 rfl (lv_at hl 1 rfl) ?_
        refine lv_iload_n hx hb dJ1_indexOf_4cfef_32 rfl (lv_at hl 0 rfl) ?_
        have hPc : va_P D vwCl [] _ := (ro0 hP0 hS).sub (ws' := []) [] rfl
        have hDc : va_D (fun q => z0 ≤ q) [] := hD0.pick (ws' := []) [] (by decide) rfl
        have hFc := AnA (ws := []) hS.1
        refine va_calli (va_runS (As := [.ref (g 305), .int p0, .int 0, .int 6]) (rest := []) ⟨hx, hb, hml, hown, ht⟩ (k_J1_indexOfChar_4cfef_v4 l D g z0 _ a p0) (va_cwS 4 ht (gS w_415 w_417 w_407 w_416) rfl rfl rfl (by decide +kernel) (le2 rfl rfl)) ⟨PP.blind, PP.mk' hK hZ hz hAz hS hPc hDc⟩ rfl rfl hl.1 rfl (lv_room (Nat.le_of_ble_eq_true rfl)) dJ1_indexOf_4cfef_33 (le2 rfl rfl)) hS (fun q _ h => hFc q h) hFc (fun r u t H locs ht1 hvm hw hB hz1 hk1 hS => ?_)
        rcases hw with hw | hw | hw | hw | hw | hw | hw
        · obtain ⟨rfl, hw⟩ := hw
          obtain ⟨c_10, c_11, c_12, c_13, c_14, c_15⟩ := hw
          refine W.widen (k := 0) (n := 0) (Nat.le_of_ble_eq_true rfl) (Nat.le_of_ble_eq_true rfl) ?_
          exact W.iret (v := (-1)) hx hb hr (fun t ht9 hW9 => ⟨⟨(-1), (), rfl, (Or.inl ⟨rfl, (Or.inr (Or.inr ⟨c_6, c_7, c_10, c_11, c_12, c_13, c_14, c_15⟩))⟩), trivial⟩, hS.F ht9⟩) hS.2.2 dJ1_indexOf_4cfef_36 hlocks
        · obtain ⟨rfl, hw⟩ := hw
          obtain ⟨c_16, c_17, c_18, c_19, c_20, c_21⟩ := hw
          refine W.widen (k := 0) (n := 0) (Nat.le_of_ble_eq_true rfl) (Nat.le_of_ble_eq_true rfl) ?_
          exact W.iret (v := 5) hx hb hr (fun t ht9 hW9 => ⟨⟨5, (), rfl, (Or.inr (Or.inl ⟨rfl, ⟨c_6, c_7, c_16, c_17, c_18, c_19, c_20, c_21⟩⟩)), trivial⟩, hS.F ht9⟩) hS.2.2 dJ1_indexOf_4cfef_36 hlocks
        · obtain ⟨rfl, hw⟩ := hw
          obtain ⟨c_22, c_23, c_24, c_25, c_26⟩ := hw
          refine W.widen (k := 0) (n := 0) (Nat.le_of_ble_eq_true rfl) (Nat.le_of_ble_eq_true rfl) ?_
          exact W.iret (v := 4) hx hb hr (fun t ht9 hW9 => ⟨⟨4, (), rfl, (Or.inr (Or.inr (Or.inl ⟨rfl, ⟨c_6, c_7, c_22, c_23, c_24, c_25, c_26⟩⟩))), trivial⟩, hS.F ht9⟩) hS.2.2 dJ1_indexOf_4cfef_36 hlocks
        · obtain ⟨rfl, hw⟩ := hw
          obtain ⟨c_27, c_28, c_29, c_30⟩ := hw
          refine W.widen (k := 0) (n := 0) (Nat.le_of_ble_eq_true rfl) (Nat.le_of_ble_eq_true rfl) ?_
          exact W.iret (v := 3) hx hb hr (fun t ht9 hW9 => ⟨⟨3, (), rfl, (Or.inr (Or.inr (Or.inr (Or.inl ⟨rfl, ⟨c_6, c_7, c_27, c_28, c_29, c_30⟩⟩)))), trivial⟩, hS.F ht9⟩) hS.2.2 dJ1_indexOf_4cfef_36 hlocks
        · obtain ⟨rfl, hw⟩ := hw
          obtain ⟨c_31, c_32, c_33⟩ := hw
          refine W.widen (k := 0) (n := 0) (Nat.le_of_ble_eq_true rfl) (Nat.le_of_ble_eq_true rfl) ?_
          exact W.iret (v := 2) hx hb hr (fun t ht9 hW9 => ⟨⟨2, (), rfl, (Or.inr (Or.inr (Or.inr (Or.inr (Or.inl ⟨rfl, ⟨c_6, c_7, c_31, c_32, c_33⟩⟩))))), trivial⟩, hS.F ht9⟩) hS.2.2 dJ1_indexOf_4cfef_36 hlocks
        · obtain ⟨rfl, hw⟩ := hw
          obtain ⟨c_34, c_35⟩ := hw
          refine W.widen (k := 0) (n := 0) (Nat.le_of_ble_eq_true rfl) (Nat.le_of_ble_eq_true rfl) ?_
          exact W.iret (v := 1) hx hb hr (fun t ht9 hW9 => ⟨⟨1, (), rfl, (Or.inr (Or.inr (Or.inr (Or.inr (Or.inr (Or.inl ⟨rfl, ⟨c_6, c_7, c_34, c_35⟩⟩)))))), trivial⟩, hS.F ht9⟩) hS.2.2 dJ1_indexOf_4cfef_36 hlocks
        · obtain ⟨rfl, hw⟩ := hw
          have c_36 := hw
          refine W.widen (k := 0) (n := 0) (Nat.le_of_ble_eq_true rfl) (Nat.le_of_ble_eq_true rfl) ?_
          exact W.iret (v := 0) hx hb hr (fun t ht9 hW9 => ⟨⟨0, (), rfl, (Or.inr (Or.inr (Or.inr (Or.inr (Or.inr (Or.inr ⟨rfl, ⟨c_6, c_7, c_36⟩⟩)))))), trivial⟩, hS.F ht9⟩) hS.2.2 dJ1_indexOf_4cfef_36 hlocks
      · exact absurd c_9 (by decide)
    · exact absurd c_8 (by decide)
set_option maxHeartbeats 4000000 in
set_option maxRecDepth 100000 in
theorem k_J0_indexOf_7cf53_v4 (l : Launch) (D : va_G) (g : Nat → ClassId) (z0 sz : Nat) (a : Nat → Nat) (p0 : Int32) : Met l yJ0_indexOf_7cf53 (.code yJ0_indexOf_7cf53 cJ0_indexOf_7cf53 3 (some .int) :: TG) (rmk 2 0 0 48) (va_Pc [.ref (g 205), .int p0, .int 0] (PP D g z0 sz [])) (va_Qi (fun (r : Int32) (u : Unit) => ((r = (-1)) ∧ ((p0 < 0) ∨ ((¬ p0 < 0) ∧ ((255 : Int32) < p0)) ∨ ((¬ p0 < 0) ∧ (¬ (255 : Int32) < p0) ∧ (¬ 94 = p0.toInt8.toInt32) ∧ (¬ 118 = p0.toInt8.toInt32) ∧ (¬ 48 = p0.toInt8.toInt32) ∧ (¬ 49 = p0.toInt8.toInt32) ∧ (¬ 122 = p0.toInt8.toInt32) ∧ (¬ 111 = p0.toInt8.toInt32)))) ∨ ((r = 5) ∧ ((¬ p0 < 0) ∧ (¬ (255 : Int32) < p0) ∧ (¬ 94 = p0.toInt8.toInt32) ∧ (¬ 118 = p0.toInt8.toInt32) ∧ (¬ 48 = p0.toInt8.toInt32) ∧ (¬ 49 = p0.toInt8.toInt32) ∧ (¬ 122 = p0.toInt8.toInt32) ∧ (111 = p0.toInt8.toInt32))) ∨ ((r = 4) ∧ ((¬ p0 < 0) ∧ (¬ (255 : Int32) < p0) ∧ (¬ 94 = p0.toInt8.toInt32) ∧ (¬ 118 = p0.toInt8.toInt32) ∧ (¬ 48 = p0.toInt8.toInt32) ∧ (¬ 49 = p0.toInt8.toInt32) ∧ (122 = p0.toInt8.toInt32))) ∨ ((r = 3) ∧ ((¬ p0 < 0) ∧ (¬ (255 : Int32) < p0) ∧ (¬ 94 = p0.toInt8.toInt32) ∧ (¬ 118 = p0.toInt8.toInt32) ∧ (¬ 48 = p0.toInt8.toInt32) ∧ (49 = p0.toInt8.toInt32))) ∨ ((r = 2) ∧ ((¬ p0 < 0) ∧ (¬ (255 : Int32) < p0) ∧ (¬ 94 = p0.toInt8.toInt32) ∧ (¬ 118 = p0.toInt8.toInt32) ∧ (48 = p0.toInt8.toInt32))) ∨ ((r = 1) ∧ ((¬ p0 < 0) ∧ (¬ (255 : Int32) < p0) ∧ (¬ 94 = p0.toInt8.toInt32) ∧ (118 = p0.toInt8.toInt32))) ∨ ((r = 0) ∧ ((¬ p0 < 0) ∧ (¬ (255 : Int32) < p0) ∧ (94 = p0.toInt8.toInt32)))) (fun (_ : Unit) (_ : State) => True) (va_A [] sz)) 0 0 (va_A [] sz) := by
  refine met0 (cc := cJ0_indexOf_7cf53) (n := 3) (by decide) (Nat.le_of_ble_eq_true rfl) ?_
  intro p e s m args below meth c hx hb hr hml hown ht hlocks hnm hP0 hD0 hK hZ hsz hz ls hl
  subst hsz
  have hA : ∀ q : Nat, s.heap.size ≤ q → va_A [] s.heap.size q := Anw
  have hAz : ∀ q, va_A [] s.heap.size q → z0 ≤ q := A0z hz
  have hS : va_S (va_A [] s.heap.size) s.heap s.heap [] := va_S.rf
  have hl : lv_has ls 3 [(0, .ref (g 205)), (1, .int p0), (2, .int 0)] := hl
  refine lv_aload_n hx hb dJ0_indexOf_7cf53_0 rfl (lv_at hl 0 rfl) ?_
  have hPc : va_P D vwCl [] _ := (ro0 hP0 hS).sub (ws' := []) [] rfl
  have hDc : va_D (fun q => z0 ≤ q) [] := hD0.pick (ws' := []) [] (by decide) rfl
  have hFc := AnA (ws := []) hS.1
  refine va_calli (va_runV (As := []) (rest := []) ⟨hx, hb, hml, hown, ht⟩ (k_J0_isLatin1_aae02_v4 l D g z0 _ a) (cwV 0 ht (gV w_390 w_392 w_393 w_394 w_391) rfl rfl rfl (by decide +kernel) (le2 rfl rfl)) ⟨PP.blind, vk_recv (i := 5) (hZ.m hAz).2.2.1 (by decide) hS, PP.mk' hK hZ hz hAz hS hPc hDc⟩ rfl rfl hl.1 rfl (lv_room (Nat.le_of_ble_eq_true rfl)) dJ0_indexOf_7cf53_1 (le2 rfl rfl)) hS (fun q _ h => hFc q h) hFc (fun r u t H locs ht1 hvm hw hB hz1 hk1 hS => ?_)
  obtain ⟨rfl, hw⟩ := hw
  refine lv_if_eq (tgt := 23) hx hb dJ0_indexOf_7cf53_4 (by decide) (fun c_1 => ?_) (fun c_1 => ?_)
  · exact absurd c_1 (by decide)
  · refine lv_aload_n hx hb dJ0_indexOf_7cf53_7 rfl (lv_at hl 0 rfl) ?_
    refine vk_getf (v := .ref (g 305)) hx hb ((hZ.m hAz).2.2.1.1 5 (by decide)).2.2.1 hS hown (ht _ w_395) (fun _ h9 => h9) dJ0_indexOf_7cf53_8 ?_
    refine lv_iload_n hx hb dJ0_indexOf_7cf53_11 rfl (lv_at hl 1 rfl) ?_
    refine lv_iload_n hx hb dJ0_indexOf_7cf53_12 rfl (lv_at hl 2 rfl) ?_
    refine lv_aload_n hx hb dJ0_indexOf_7cf53_13 rfl (lv_at hl 0 rfl) ?_
    have hPc : va_P D vwCl [] _ := (ro0 hP0 hS).sub (ws' := []) [] rfl
    have hDc : va_D (fun q => z0 ≤ q) [] := hD0.pick (ws' := []) [] (by decide) rfl
    have hFc := AnA (ws := []) hS.1
    refine va_calli (va_runV (As := []) (rest := [.int 0, .int p0, .ref (g 305)]) ⟨hx, hb, hml, hown, ht⟩ (k_J0_length_8abf5_v5 l D g z0 _ a) (cwV 0 ht (gV w_400 w_402 w_403 w_394 w_401) rfl rfl rfl (by decide +kernel) (le2 rfl rfl)) ⟨PP.blind, vk_recv (i := 5) (hZ.m hAz).2.2.1 (by decide) hS, PP.mk' hK hZ hz hAz hS hPc hDc⟩ rfl rfl hl.1 rfl (lv_room (Nat.le_of_ble_eq_true rfl)) dJ0_indexOf_7cf53_14 (le2 rfl rfl)) hS (fun q _ h => hFc q h) hFc (fun r u t H locs ht1 hvm hw hB hz1 hk1 hS => ?_)
    obtain ⟨rfl, hw⟩ := hw
    have hPc : va_P D vwCl [] _ := (ro0 hP0 hS).sub (ws' := []) [] rfl
    have hDc : va_D (fun q => z0 ≤ q) [] := hD0.pick (ws' := []) [] (by decide) rfl
    have hFc := AnA (ws := []) hS.1
    refine va_calli (va_runS (As := [.ref (g 305), .int p0, .int 0, .int 6]) (rest := []) ⟨hx, hb, hml, hown, ht⟩ (k_J1_indexOf_4cfef_v4 l D g z0 _ a p0) (va_cwS 4 ht (gS w_418 w_420 w_407 w_419) rfl rfl rfl (by decide +kernel) (le2 rfl rfl)) ⟨PP.blind, PP.mk' hK hZ hz hAz hS hPc hDc⟩ rfl rfl hl.1 rfl (lv_room (Nat.le_of_ble_eq_true rfl)) dJ0_indexOf_7cf53_17 (le2 rfl rfl)) hS (fun q _ h => hFc q h) hFc (fun r u t H locs ht1 hvm hw hB hz1 hk1 hS => ?_)
    rcases hw with hw | hw | hw | hw | hw | hw | hw
    · obtain ⟨rfl, hw⟩ := hw
      rcases hw with hw | hw | hw
      · have c_2 := hw
        refine lv_goto (tgt := 36) hx hb dJ0_indexOf_7cf53_20 (by decide) ?_
        refine W.widen (k := 0) (n := 0) (Nat.le_of_ble_eq_true rfl) (Nat.le_of_ble_eq_true rfl) ?_
        exact W.iret (v := (-1)) hx hb hr (fun t ht9 hW9 => ⟨⟨(-1), (), rfl, (Or.inl ⟨rfl, (Or.inl c_2)⟩), trivial⟩, hS.F ht9⟩) hS.2.2 dJ0_indexOf_7cf53_36 hlocks
      · obtain ⟨c_3, c_4⟩ := hw
        refine lv_goto (tgt := 36) hx hb dJ0_indexOf_7cf53_20 (by decide) ?_
        refine W.widen (k := 0) (n := 0) (Nat.le_of_ble_eq_true rfl) (Nat.le_of_ble_eq_true rfl) ?_
        exact W.iret (v := (-1)) hx hb hr (fun t ht9 hW9 => ⟨⟨(-1), (), rfl, (Or.inl ⟨rfl, (Or.inr (Or.inl ⟨c_3, c_4⟩))⟩), trivial⟩, hS.F ht9⟩) hS.2.2 dJ0_indexOf_7cf53_36 hlocks
      · obtain ⟨c_5, c_6, c_7, c_8, c_9, c_10, c_11, c_12⟩ := hw
        refine lv_goto (tgt := 36) hx hb dJ0_indexOf_7cf53_20 (by decide) ?_
        refine W.widen (k := 0) (n := 0) (Nat.le_of_ble_eq_true rfl) (Nat.le_of_ble_eq_true rfl) ?_
        exact W.iret (v := (-1)) hx hb hr (fun t ht9 hW9 => ⟨⟨(-1), (), rfl, (Or.inl ⟨rfl, (Or.inr (Or.inr ⟨c_5, c_6, c_7, c_8, c_9, c_10, c_11, c_12⟩))⟩), trivial⟩, hS.F ht9⟩) hS.2.2 dJ0_indexOf_7cf53_36 hlocks
    · obtain ⟨rfl, hw⟩ := hw
      obtain ⟨c_13, c_14, c_15, c_16, c_17, c_18, c_19, c_20⟩ := hw
      refine lv_goto (tgt := 36) hx hb dJ0_indexOf_7cf53_20 (by decide) ?_
      refine W.widen (k := 0) (n := 0) (Nat.le_of_ble_eq_true rfl) (Nat.le_of_ble_eq_true rfl) ?_
      exact W.iret (v := 5) hx hb hr (fun t ht9 hW9 => ⟨⟨5, (), rfl, (Or.inr (Or.inl ⟨rfl, ⟨c_13, c_14, c_15, c_16, c_17, c_18, c_19, c_20⟩⟩)), trivial⟩, hS.F ht9⟩) hS.2.2 dJ0_indexOf_7cf53_36 hlocks
    · obtain ⟨rfl, hw⟩ := hw
      obtain ⟨c_21, c_22, c_23, c_24, c_25, c_26, c_27⟩ := hw
      refine lv_goto (tgt := 36) hx hb dJ0_indexOf_7cf53_20 (by decide) ?_
      refine W.widen (k := 0) (n := 0) (Nat.le_of_ble_eq_true rfl) (Nat.le_of_ble_eq_true rfl) ?_
      exact W.iret (v := 4) hx hb hr (fun t ht9 hW9 => ⟨⟨4, (), rfl, (Or.inr (Or.inr (Or.inl ⟨rfl, ⟨c_21, c_22, c_23, c_24, c_25, c_26, c_27⟩⟩))), trivial⟩, hS.F ht9⟩) hS.2.2 dJ0_indexOf_7cf53_36 hlocks
    · obtain ⟨rfl, hw⟩ := hw
      obtain ⟨c_28, c_29, c_30, c_31, c_32, c_33⟩ := hw
      refine lv_goto (tgt := 36) hx hb dJ0_indexOf_7cf53_20 (by decide) ?_
      refine W.widen (k := 0) (n := 0) (Nat.le_of_ble_eq_true rfl) (Nat.le_of_ble_eq_true rfl) ?_
      exact W.iret (v := 3) hx hb hr (fun t ht9 hW9 => ⟨⟨3, (), rfl, (Or.inr (Or.inr (Or.inr (Or.inl ⟨rfl, ⟨c_28, c_29, c_30, c_31, c_32, c_33⟩⟩)))), trivial⟩, hS.F ht9⟩) hS.2.2 dJ0_indexOf_7cf53_36 hlocks
    · obtain ⟨rfl, hw⟩ := hw
      obtain ⟨c_34, c_35, c_36, c_37, c_38⟩ := hw
      refine lv_goto (tgt := 36) hx hb dJ0_indexOf_7cf53_20 (by decide) ?_
      refine W.widen (k := 0) (n := 0) (Nat.le_of_ble_eq_true rfl) (Nat.le_of_ble_eq_true rfl) ?_
      exact W.iret (v := 2) hx hb hr (fun t ht9 hW9 => ⟨⟨2, (), rfl, (Or.inr (Or.inr (Or.inr (Or.inr (Or.inl ⟨rfl, ⟨c_34, c_35, c_36, c_37, c_38⟩⟩))))), trivial⟩, hS.F ht9⟩) hS.2.2 dJ0_indexOf_7cf53_36 hlocks
    · obtain ⟨rfl, hw⟩ := hw
      obtain ⟨c_39, c_40, c_41, c_42⟩ := hw
      refine lv_goto (tgt := 36) hx hb dJ0_indexOf_7cf53_20 (by decide) ?_
      refine W.widen (k := 0) (n := 0) (Nat.le_of_ble_eq_true rfl) (Nat.le_of_ble_eq_true rfl) ?_
      exact W.iret (v := 1) hx hb hr (fun t ht9 hW9 => ⟨⟨1, (), rfl, (Or.inr (Or.inr (Or.inr (Or.inr (Or.inr (Or.inl ⟨rfl, ⟨c_39, c_40, c_41, c_42⟩⟩)))))), trivial⟩, hS.F ht9⟩) hS.2.2 dJ0_indexOf_7cf53_36 hlocks
    · obtain ⟨rfl, hw⟩ := hw
      obtain ⟨c_43, c_44, c_45⟩ := hw
      refine lv_goto (tgt := 36) hx hb dJ0_indexOf_7cf53_20 (by decide) ?_
      refine W.widen (k := 0) (n := 0) (Nat.le_of_ble_eq_true rfl) (Nat.le_of_ble_eq_true rfl) ?_
      exact W.iret (v := 0) hx hb hr (fun t ht9 hW9 => ⟨⟨0, (), rfl, (Or.inr (Or.inr (Or.inr (Or.inr (Or.inr (Or.inr ⟨rfl, ⟨c_43, c_44, c_45⟩⟩)))))), trivial⟩, hS.F ht9⟩) hS.2.2 dJ0_indexOf_7cf53_36 hlocks
set_option maxHeartbeats 4000000 in
set_option maxRecDepth 100000 in
theorem k_J0_indexOf_0f7a4_v4 (l : Launch) (D : va_G) (g : Nat → ClassId) (z0 sz : Nat) (a : Nat → Nat) (p0 : Int32) : Met l yJ0_indexOf_0f7a4 (.code yJ0_indexOf_0f7a4 cJ0_indexOf_0f7a4 2 (some .int) :: TG) (rmk 3 0 0 70) (va_Pc [.ref (g 205), .int p0] (PP D g z0 sz [])) (va_Qi (fun (r : Int32) (u : Unit) => ((r = (-1)) ∧ (((¬ p0 = 94) ∧ (¬ p0 = 118) ∧ (¬ p0 = 48) ∧ (¬ p0 = 49) ∧ (¬ p0 = 122) ∧ (¬ p0 = 111)) ∨ ((¬ p0 = 94) ∧ (¬ p0 = 118) ∧ (¬ p0 = 48) ∧ (¬ p0 = 49) ∧ (¬ p0 = 122) ∧ (¬ p0 = 111)) ∨ ((¬ p0 = 94) ∧ (¬ p0 = 118) ∧ (¬ p0 = 48) ∧ (¬ p0 = 49) ∧ (¬ p0 = 122) ∧ (¬ p0 = 111)))) ∨ ((r = 5) ∧ (p0 = 111)) ∨ ((r = 4) ∧ (p0 = 122)) ∨ ((r = 3) ∧ (p0 = 49)) ∨ ((r = 2) ∧ (p0 = 48)) ∨ ((r = 1) ∧ (p0 = 118)) ∨ ((r = 0) ∧ (p0 = 94))) (fun (_ : Unit) (_ : State) => True) (va_A [] sz)) 0 0 (va_A [] sz) := by
  refine met0 (cc := cJ0_indexOf_0f7a4) (n := 2) (by decide) (Nat.le_of_ble_eq_true rfl) ?_
  intro p e s m args below meth c hx hb hr hml hown ht hlocks hnm hP0 hD0 hK hZ hsz hz ls hl
  subst hsz
  have hA : ∀ q : Nat, s.heap.size ≤ q → va_A [] s.heap.size q := Anw
  have hAz : ∀ q, va_A [] s.heap.size q → z0 ≤ q := A0z hz
  have hS : va_S (va_A [] s.heap.size) s.heap s.heap [] := va_S.rf
  have hl : lv_has ls 2 [(0, .ref (g 205)), (1, .int p0)] := hl
  refine lv_aload_n hx hb dJ0_indexOf_0f7a4_0 rfl (lv_at hl 0 rfl) ?_
  refine lv_iload_n hx hb dJ0_indexOf_0f7a4_1 rfl (lv_at hl 1 rfl) ?_
  refine lv_iconst (v := 0) hx hb dJ0_indexOf_0f7a4_2 (by decide) ?_
  have hPc : va_P D vwCl [] _ := (ro0 hP0 hS).sub (ws' := []) [] rfl
  have hDc : va_D (fun q => z0 ≤ q) [] := hD0.pick (ws' := []) [] (by decide) rfl
  have hFc := AnA (ws := []) hS.1
  refine va_calli (va_runV (As := [.int p0, .int 0]) (rest := []) ⟨hx, hb, hml, hown, ht⟩ (k_J0_indexOf_7cf53_v4 l D g z0 _ a p0) (cwV 2 ht (gV w_421 w_423 w_424 w_394 w_422) rfl rfl rfl (by decide +kernel) (le2 rfl rfl)) ⟨PP.blind, vk_recv (i := 5) (hZ.m hAz).2.2.1 (by decide) hS, PP.mk' hK hZ hz hAz hS hPc hDc⟩ rfl rfl hl.1 rfl (lv_room (Nat.le_of_ble_eq_true rfl)) dJ0_indexOf_0f7a4_3 (le2 rfl rfl)) hS (fun q _ h => hFc q h) hFc (fun r u t H locs ht1 hvm hw hB hz1 hk1 hS => ?_)
  rcases hw with hw | hw | hw | hw | hw | hw | hw
  · obtain ⟨rfl, hw⟩ := hw
    rcases hw with hw | hw | hw
    · have c_1 := hw
      refine W.widen (k := 0) (n := 0) (Nat.le_of_ble_eq_true rfl) (Nat.le_of_ble_eq_true rfl) ?_
      exact W.iret (v := (-1)) hx hb hr (fun t ht9 hW9 => ⟨⟨(-1), (), rfl, (Or.inl ⟨rfl, (Or.inl ⟨(fun h9 => absurd (h9 ▸ c_1) (by decide)), (fun h9 => absurd (h9 ▸ c_1) (by decide)), (fun h9 => absurd (h9 ▸ c_1) (by decide)), (fun h9 => absurd (h9 ▸ c_1) (by decide)), (fun h9 => absurd (h9 ▸ c_1) (by decide)), (fun h9 => absurd (h9 ▸ c_1) (by decide))⟩)⟩), trivial⟩, hS.F ht9⟩) hS.2.2 dJ0_indexOf_0f7a4_6 hlocks
    · obtain ⟨c_2, c_3⟩ := hw
      refine W.widen (k := 0) (n := 0) (Nat.le_of_ble_eq_true rfl) (Nat.le_of_ble_eq_true rfl) ?_
      exact W.iret (v := (-1)) hx hb hr (fun t ht9 hW9 => ⟨⟨(-1), (), rfl, (Or.inl ⟨rfl, (Or.inl ⟨(fun h9 => absurd (h9 ▸ c_3) (by decide)), (fun h9 => absurd (h9 ▸ c_3) (by decide)), (fun h9 => absurd (h9 ▸ c_3) (by decide)), (fun h9 => absurd (h9 ▸ c_3) (by decide)), (fun h9 => absurd (h9 ▸ c_3) (by decide)), (fun h9 => absurd (h9 ▸ c_3) (by decide))⟩)⟩), trivial⟩, hS.F ht9⟩) hS.2.2 dJ0_indexOf_0f7a4_6 hlocks
    · obtain ⟨c_4, c_5, c_6, c_7, c_8, c_9, c_10, c_11⟩ := hw
      refine W.widen (k := 0) (n := 0) (Nat.le_of_ble_eq_true rfl) (Nat.le_of_ble_eq_true rfl) ?_
      exact W.iret (v := (-1)) hx hb hr (fun t ht9 hW9 => ⟨⟨(-1), (), rfl, (Or.inl ⟨rfl, (Or.inl ⟨(fun h9 => c_6 (by rw [h9]; decide)), (fun h9 => c_7 (by rw [h9]; decide)), (fun h9 => c_8 (by rw [h9]; decide)), (fun h9 => c_9 (by rw [h9]; decide)), (fun h9 => c_10 (by rw [h9]; decide)), (fun h9 => c_11 (by rw [h9]; decide))⟩)⟩), trivial⟩, hS.F ht9⟩) hS.2.2 dJ0_indexOf_0f7a4_6 hlocks
  · obtain ⟨rfl, hw⟩ := hw
    obtain ⟨c_12, c_13, c_14, c_15, c_16, c_17, c_18, c_19⟩ := hw
    refine W.widen (k := 0) (n := 0) (Nat.le_of_ble_eq_true rfl) (Nat.le_of_ble_eq_true rfl) ?_
    exact W.iret (v := 5) hx hb hr (fun t ht9 hW9 => ⟨⟨5, (), rfl, (Or.inr (Or.inl ⟨rfl, (ix_eq (n := 111) c_12 c_13 (by decide) c_19)⟩)), trivial⟩, hS.F ht9⟩) hS.2.2 dJ0_indexOf_0f7a4_6 hlocks
  · obtain ⟨rfl, hw⟩ := hw
    obtain ⟨c_20, c_21, c_22, c_23, c_24, c_25, c_26⟩ := hw
    refine W.widen (k := 0) (n := 0) (Nat.le_of_ble_eq_true rfl) (Nat.le_of_ble_eq_true rfl) ?_
    exact W.iret (v := 4) hx hb hr (fun t ht9 hW9 => ⟨⟨4, (), rfl, (Or.inr (Or.inr (Or.inl ⟨rfl, (ix_eq (n := 122) c_20 c_21 (by decide) c_26)⟩))), trivial⟩, hS.F ht9⟩) hS.2.2 dJ0_indexOf_0f7a4_6 hlocks
  · obtain ⟨rfl, hw⟩ := hw
    obtain ⟨c_27, c_28, c_29, c_30, c_31, c_32⟩ := hw
    refine W.widen (k := 0) (n := 0) (Nat.le_of_ble_eq_true rfl) (Nat.le_of_ble_eq_true rfl) ?_
    exact W.iret (v := 3) hx hb hr (fun t ht9 hW9 => ⟨⟨3, (), rfl, (Or.inr (Or.inr (Or.inr (Or.inl ⟨rfl, (ix_eq (n := 49) c_27 c_28 (by decide) c_32)⟩)))), trivial⟩, hS.F ht9⟩) hS.2.2 dJ0_indexOf_0f7a4_6 hlocks
  · obtain ⟨rfl, hw⟩ := hw
    obtain ⟨c_33, c_34, c_35, c_36, c_37⟩ := hw
    refine W.widen (k := 0) (n := 0) (Nat.le_of_ble_eq_true rfl) (Nat.le_of_ble_eq_true rfl) ?_
    exact W.iret (v := 2) hx hb hr (fun t ht9 hW9 => ⟨⟨2, (), rfl, (Or.inr (Or.inr (Or.inr (Or.inr (Or.inl ⟨rfl, (ix_eq (n := 48) c_33 c_34 (by decide) c_37)⟩))))), trivial⟩, hS.F ht9⟩) hS.2.2 dJ0_indexOf_0f7a4_6 hlocks
  · obtain ⟨rfl, hw⟩ := hw
    obtain ⟨c_38, c_39, c_40, c_41⟩ := hw
    refine W.widen (k := 0) (n := 0) (Nat.le_of_ble_eq_true rfl) (Nat.le_of_ble_eq_true rfl) ?_
    exact W.iret (v := 1) hx hb hr (fun t ht9 hW9 => ⟨⟨1, (), rfl, (Or.inr (Or.inr (Or.inr (Or.inr (Or.inr (Or.inl ⟨rfl, (ix_eq (n := 118) c_38 c_39 (by decide) c_41)⟩)))))), trivial⟩, hS.F ht9⟩) hS.2.2 dJ0_indexOf_0f7a4_6 hlocks
  · obtain ⟨rfl, hw⟩ := hw
    obtain ⟨c_42, c_43, c_44⟩ := hw
    refine W.widen (k := 0) (n := 0) (Nat.le_of_ble_eq_true rfl) (Nat.le_of_ble_eq_true rfl) ?_
    exact W.iret (v := 0) hx hb hr (fun t ht9 hW9 => ⟨⟨0, (), rfl, (Or.inr (Or.inr (Or.inr (Or.inr (Or.inr (Or.inr ⟨rfl, (ix_eq (n := 94) c_42 c_43 (by decide) c_44)⟩)))))), trivial⟩, hS.F ht9⟩) hS.2.2 dJ0_indexOf_0f7a4_6 hlocks
set_option maxHeartbeats 4000000 in
set_option maxRecDepth 100000 in
theorem k_J5_init_d00df (l : Launch) (D : va_G) (g : Nat → ClassId) (z0 sz : Nat) (a : Nat → Nat) (h0 : Nat) : Met l yJ5_init_d00df (.code yJ5_init_d00df cJ5_init_d00df 2 none :: TG) (rmk 1 1 16 12) (va_Pc [.ref h0, .int 16] (PP D g z0 sz [(h0, .inr (1, [.null, .int 0, .int 0, .int 0]))])) (va_Qv (fun (u : Unit) => True) (fun (u : Unit) (t : State) => ∃ (q_2 : Nat), va_P D vwCl [(h0, .inr (1, [.ref q_2, .int 0, .int 0, .int 0])), (q_2, .inl (g 5, 16, .inl (fun _ => 0)))] t.heap ∧ va_D (va_A [(h0, .inr (1, [.null, .int 0, .int 0, .int 0]))] sz) [(h0, .inr (1, [.ref q_2, .int 0, .int 0, .int 0])), (q_2, .inl (g 5, 16, .inl (fun _ => 0)))]) (va_A [(h0, .inr (1, [.null, .int 0, .int 0, .int 0]))] sz)) 1 16 (va_A [(h0, .inr (1, [.null, .int 0, .int 0, .int 0]))] sz) := by
  refine met0 (cc := cJ5_init_d00df) (n := 2) (by decide) (Nat.le_of_ble_eq_true rfl) ?_
  intro p e s m args below meth c hx hb hr hml hown ht hlocks hnm hP0 hD0 hK hZ hsz hz ls hl
  subst hsz
  have hA : ∀ q : Nat, s.heap.size ≤ q → va_A [(h0, .inr (1, [.null, .int 0, .int 0, .int 0]))] s.heap.size q := Anw
  have hAz : ∀ q, va_A [(h0, .inr (1, [.null, .int 0, .int 0, .int 0]))] s.heap.size q → z0 ≤ q := Awz hz hD0
  have hS : va_S (va_A [(h0, .inr (1, [.null, .int 0, .int 0, .int 0]))] s.heap.size) s.heap s.heap [] := va_S.rf
  have hD : va_D (va_A [(h0, .inr (1, [.null, .int 0, .int 0, .int 0]))] s.heap.size) [(h0, .inr (1, [.null, .int 0, .int 0, .int 0]))] := hD0.self
  have hP : va_P D vwCl [(h0, .inr (1, [.null, .int 0, .int 0, .int 0]))] s.heap := hP0
  have hl : lv_has ls 2 [(0, .ref h0), (1, .int 16)] := hl
  refine lv_aload_n hx hb dJ5_init_d00df_0 rfl (lv_at hl 0 rfl) ?_
  refine W.objInit hx hb hown (ht _ w_1295) (ht _ w_311) (ht _ w_309) rfl (by rw [hml]; exact hl.1) rfl dJ5_init_d00df_1 (Nat.le_of_ble_eq_true rfl) (Nat.le_of_ble_eq_true rfl) ?_
  refine W.eq (g2 := F0 m 4 ls []) rfl ?_
  refine va_gets (C := "java/lang/String") (n := "COMPACT_STRINGS") (d := "Z") (v := .int 1) hx hb (hZ.m hAz).2.2.2.1 hS hown (ht _ w_1296) (fun _ h9 => h9) dJ5_init_d00df_4 ?_
  refine lv_if_eq (tgt := 25) hx hb dJ5_init_d00df_7 (by decide) (fun c_1 => ?_) (fun c_1 => ?_)
  · exact absurd c_1 (by decide)
  · refine lv_aload_n hx hb dJ5_init_d00df_10 rfl (lv_at hl 0 rfl) ?_
    refine lv_iload_n hx hb dJ5_init_d00df_11 rfl (lv_at hl 1 rfl) ?_
    refine r_newa (atype := .byte) (cy := g 5) (a0 := (16, .inl (fun _ => 0))) hx hb (ht _ w_1297) hK.2.1.2.2.2.2.2 hP hD hS hA (fun _ => rfl) (by decide) (by decide) (by decide) (Nat.le_of_ble_eq_true rfl) (Nat.le_of_ble_eq_true rfl) dJ5_init_d00df_12 (fun q_2 H hP hD hS => ?_)
    have hP : va_P D vwCl [(h0, .inr (1, [.null, .int 0, .int 0, .int 0])), (q_2, .inl (g 5, 16, .inl (fun _ => 0)))] H := hP
    have hD : va_D (va_A [(h0, .inr (1, [.null, .int 0, .int 0, .int 0]))] s.heap.size) [(h0, .inr (1, [.null, .int 0, .int 0, .int 0])), (q_2, .inl (g 5, 16, .inl (fun _ => 0)))] := hD
    refine va_put (D := D) (ci := 1) (v := .ref q_2) (ty := .array .byte) (C := RJ4) (T := TJ4) (N := 4) hx hb ht in_J4 tyJ4 tyJ4_ok nmJ4 hown hK.1 hP hD hS 0 rfl rfl 0 (by decide) (ht _ w_1298) (fun _ h9 => h9) rfl (by decide +kernel) rfl rfl (Nat.le_of_ble_eq_true rfl) dJ5_init_d00df_14 (fun H locs hP hD hS => ?_)
    have hP : va_P D vwCl [(h0, .inr (1, [.ref q_2, .int 0, .int 0, .int 0])), (q_2, .inl (g 5, 16, .inl (fun _ => 0)))] H := hP
    have hD : va_D (va_A [(h0, .inr (1, [.null, .int 0, .int 0, .int 0]))] s.heap.size) [(h0, .inr (1, [.ref q_2, .int 0, .int 0, .int 0])), (q_2, .inl (g 5, 16, .inl (fun _ => 0)))] := hD
    refine lv_aload_n hx hb dJ5_init_d00df_17 rfl (lv_at hl 0 rfl) ?_
    refine lv_iconst (v := 0) hx hb dJ5_init_d00df_18 (by decide) ?_
    refine va_put (D := D) (ci := 1) (v := .int 0) (ty := .byte) (C := RJ4) (T := TJ4) (N := 4) hx hb ht in_J4 tyJ4 tyJ4_ok nmJ4 hown hK.1 hP hD hS 0 rfl rfl 1 (by decide) (ht _ w_1299) (fun _ h9 => h9) rfl (by decide +kernel) rfl rfl (Nat.le_of_ble_eq_true rfl) dJ5_init_d00df_19 (fun H locs hP hD hS => ?_)
    have hP : va_P D vwCl [(h0, .inr (1, [.ref q_2, .int 0, .int 0, .int 0])), (q_2, .inl (g 5, 16, .inl (fun _ => 0)))] H := hP
    have hD : va_D (va_A [(h0, .inr (1, [.null, .int 0, .int 0, .int 0]))] s.heap.size) [(h0, .inr (1, [.ref q_2, .int 0, .int 0, .int 0])), (q_2, .inl (g 5, 16, .inl (fun _ => 0)))] := hD
    refine lv_goto (tgt := 38) hx hb dJ5_init_d00df_22 (by decide) ?_
    have hP9 := hP.sub (ws' := [(h0, .inr (1, [.ref q_2, .int 0, .int 0, .int 0])), (q_2, .inl (g 5, 16, .inl (fun _ => 0)))]) [0, 1] rfl
    have hD9 := hD.sub (ws' := [(h0, .inr (1, [.ref q_2, .int 0, .int 0, .int 0])), (q_2, .inl (g 5, 16, .inl (fun _ => 0)))]) [0, 1] (by decide) rfl
    refine W.widen (k := 1) (n := 16) (Nat.le_of_ble_eq_true rfl) (Nat.le_of_ble_eq_true rfl) ?_
    exact W.vret hx hb hr (fun t ht9 hW9 => ⟨⟨(), rfl, trivial, ⟨q_2, (by rw [ht9]; exact hP9), hD9⟩⟩, hS.F ht9⟩) hS.2.2 dJ5_init_d00df_38 hlocks
set_option maxHeartbeats 4000000 in
set_option maxRecDepth 100000 in
theorem k_J4_init_da8c8 (l : Launch) (D : va_G) (g : Nat → ClassId) (z0 sz : Nat) (a : Nat → Nat) (h0 : Nat) : Met l yJ4_init_da8c8 (.code yJ4_init_da8c8 cJ4_init_da8c8 1 none :: TG) (rmk 2 1 16 33) (va_Pc [.ref h0] (PP D g z0 sz [(h0, .inr (1, [.null, .int 0, .int 0, .int 0]))])) (va_Qv (fun (u : Unit) => True) (fun (u : Unit) (t : State) => ∃ (q_1 : Nat), va_P D vwCl [(h0, .inr (1, [.ref q_1, .int 0, .int 0, .int 0])), (q_1, .inl (g 5, 16, .inl (fun _ => 0)))] t.heap ∧ va_D (va_A [(h0, .inr (1, [.null, .int 0, .int 0, .int 0]))] sz) [(h0, .inr (1, [.ref q_1, .int 0, .int 0, .int 0])), (q_1, .inl (g 5, 16, .inl (fun _ => 0)))]) (va_A [(h0, .inr (1, [.null, .int 0, .int 0, .int 0]))] sz)) 1 16 (va_A [(h0, .inr (1, [.null, .int 0, .int 0, .int 0]))] sz) := by
  refine met0 (cc := cJ4_init_da8c8) (n := 1) (by decide) (Nat.le_of_ble_eq_true rfl) ?_
  intro p e s m args below meth c hx hb hr hml hown ht hlocks hnm hP0 hD0 hK hZ hsz hz ls hl
  subst hsz
  have hA : ∀ q : Nat, s.heap.size ≤ q → va_A [(h0, .inr (1, [.null, .int 0, .int 0, .int 0]))] s.heap.size q := Anw
  have hAz : ∀ q, va_A [(h0, .inr (1, [.null, .int 0, .int 0, .int 0]))] s.heap.size q → z0 ≤ q := Awz hz hD0
  have hS : va_S (va_A [(h0, .inr (1, [.null, .int 0, .int 0, .int 0]))] s.heap.size) s.heap s.heap [] := va_S.rf
  have hD : va_D (va_A [(h0, .inr (1, [.null, .int 0, .int 0, .int 0]))] s.heap.size) [(h0, .inr (1, [.null, .int 0, .int 0, .int 0]))] := hD0.self
  have hP : va_P D vwCl [(h0, .inr (1, [.null, .int 0, .int 0, .int 0]))] s.heap := hP0
  have hl : lv_has ls 1 [(0, .ref h0)] := hl
  refine lv_aload_n hx hb dJ4_init_da8c8_0 rfl (lv_at hl 0 rfl) ?_
  refine lv_bipush (v := 16) hx hb dJ4_init_da8c8_1 (by decide) ?_
  have hPc : va_P D vwCl [(h0, .inr (1, [.null, .int 0, .int 0, .int 0]))] _ := hP.sub (ws' := [(h0, .inr (1, [.null, .int 0, .int 0, .int 0]))]) [0] rfl
  have hDc : va_D (fun q => z0 ≤ q) [(h0, .inr (1, [.null, .int 0, .int 0, .int 0]))] := (hD.to hAz).pick (ws' := [(h0, .inr (1, [.null, .int 0, .int 0, .int 0]))]) [0] (by decide) rfl
  have hFc := va_free (wc := [(h0, .inr (1, [.null, .int 0, .int 0, .int 0]))]) hD hS hA [0] rfl
  refine va_callv (va_runI (As := [.int 16]) (rest := []) ⟨hx, hb, hml, hown, ht⟩ (k_J5_init_d00df l D g z0 _ a h0) (cwI 1 ht (gI w_1301) rfl rfl rfl (ht _ w_1302) (ht _ w_1300) (ht _ w_1303) rfl (by decide +kernel) (le2 rfl rfl)) ⟨PP.blind, PP.mk' hK hZ hz hAz hS hPc hDc⟩ rfl rfl hl.1 rfl (lv_room (Nat.le_of_ble_eq_true rfl)) dJ4_init_da8c8_3 (le2 rfl rfl)) hS (fun q _ h => hFc q h) hFc (fun u t H locs ht1 hvm hw hB hz1 hk1 hS => ?_)
  obtain ⟨q_1, hP1, hD1⟩ := hB
  rw [ht1] at hP1
  obtain ⟨hP, hD⟩ := va_join (wr := []) (w1 := [(h0, .inr (1, [.ref q_1, .int 0, .int 0, .int 0])), (q_1, .inl (g 5, 16, .inl (fun _ => 0)))]) hP hD [0] [] rfl rfl (by decide) (by decide) hk1 hFc hP1 hD1
  have hP : va_P D vwCl [(h0, .inr (1, [.ref q_1, .int 0, .int 0, .int 0])), (q_1, .inl (g 5, 16, .inl (fun _ => 0)))] H := hP
  have hD : va_D (va_A [(h0, .inr (1, [.null, .int 0, .int 0, .int 0]))] s.heap.size) [(h0, .inr (1, [.ref q_1, .int 0, .int 0, .int 0])), (q_1, .inl (g 5, 16, .inl (fun _ => 0)))] := hD
  have hP9 := hP.sub (ws' := [(h0, .inr (1, [.ref q_1, .int 0, .int 0, .int 0])), (q_1, .inl (g 5, 16, .inl (fun _ => 0)))]) [0, 1] rfl
  have hD9 := hD.sub (ws' := [(h0, .inr (1, [.ref q_1, .int 0, .int 0, .int 0])), (q_1, .inl (g 5, 16, .inl (fun _ => 0)))]) [0, 1] (by decide) rfl
  refine W.widen (k := 1) (n := 16) (Nat.le_of_ble_eq_true rfl) (Nat.le_of_ble_eq_true rfl) ?_
  exact W.vret hx hb hr (fun t ht9 hW9 => ⟨⟨(), rfl, trivial, ⟨q_1, (by rw [ht9]; exact hP9), hD9⟩⟩, hS.F ht9⟩) hS.2.2 dJ4_init_da8c8_6 hlocks
set_option maxHeartbeats 4000000 in
set_option maxRecDepth 100000 in
theorem k_J5_ensureCapacityInternal_d00df (l : Launch) (D : va_G) (g : Nat → ClassId) (z0 sz : Nat) (a : Nat → Nat) (h0 : Nat) (h1 : Nat) (fh1 : Nat → Int32) (hfh1 : ∀ j : Nat, fits .byte (.int (fh1 j)) = true) : Met l yJ5_ensureCapacityInternal_d00df (.code yJ5_ensureCapacityInternal_d00df cJ5_ensureCapacityInternal_d00df 3 none :: TG) (rmk 0 0 0 0) (va_Pc [.ref h0, .int 0] (PP D g z0 sz [(h0, .inr (1, [.ref h1, .int 0, .int 0, .int 0])), (h1, .inl (g 5, 16, .inl fh1))])) (va_Qv (fun (u : Unit) => True) (fun (_ : Unit) (_ : State) => True) (va_A [] sz)) 0 0 (va_A [] sz) := by
  refine met0 (cc := cJ5_ensureCapacityInternal_d00df) (n := 3) (by decide) (Nat.le_of_ble_eq_true rfl) ?_
  intro p e s m args below meth c hx hb hr hml hown ht hlocks hnm hP0 hD0 hK hZ hsz hz ls hl
  subst hsz
  have hA : ∀ q : Nat, s.heap.size ≤ q → va_A [] s.heap.size q := Anw
  have hAz : ∀ q, va_A [] s.heap.size q → z0 ≤ q := A0z hz
  have hS : va_S (va_A [] s.heap.size) s.heap s.heap [] := va_S.rf
  have hl : lv_has ls 3 [(0, .ref h0), (1, .int 0)] := hl
  refine lv_aload_n hx hb dJ5_ensureCapacityInternal_d00df_0 rfl (lv_at hl 0 rfl) ?_
  refine va_get (D := D) (ci := 1) (v := .ref h1) (C := RJ4) (T := TJ4) (N := 4) hx hb ht in_J4 hown hK.1 (ro0 hP0 hS) 0 rfl rfl 0 (by decide) (ht _ w_1298) (fun _ h9 => h9) rfl dJ5_ensureCapacityInternal_d00df_1 ?_
  refine va_alen (v := 16) hx hb hK.1 (ro0 hP0 hS) 1 5 rfl rfl rfl dJ5_ensureCapacityInternal_d00df_4 ?_
  refine lv_aload_n hx hb dJ5_ensureCapacityInternal_d00df_5 rfl (lv_at hl 0 rfl) ?_
  refine va_get (D := D) (ci := 1) (v := .int 0) (C := RJ4) (T := TJ4) (N := 4) hx hb ht in_J4 hown hK.1 (ro0 hP0 hS) 0 rfl rfl 1 (by decide) (ht _ w_1299) (fun _ h9 => h9) rfl dJ5_ensureCapacityInternal_d00df_6 ?_
  refine lv_ishr hx hb dJ5_ensureCapacityInternal_d00df_9 ?_
  refine r_topi (v := 16) (by decide) ?_
  refine lv_istore_n (lv' := [(2, .int 16), (0, .ref h0), (1, .int 0)]) hx hb dJ5_ensureCapacityInternal_d00df_10 rfl hl (by decide) rfl (fun ls hl => ?_)
  refine lv_iload_n hx hb dJ5_ensureCapacityInternal_d00df_11 rfl (lv_at hl 2 rfl) ?_
  refine lv_iload_n hx hb dJ5_ensureCapacityInternal_d00df_12 rfl (lv_at hl 0 rfl) ?_
  refine lv_isub hx hb dJ5_ensureCapacityInternal_d00df_13 ?_
  refine r_topi (v := (-16)) (by decide) ?_
  refine lv_if_le (tgt := 38) hx hb dJ5_ensureCapacityInternal_d00df_14 (by decide) (fun c_1 => ?_) (fun c_1 => ?_)
  · refine W.widen (k := 0) (n := 0) (Nat.le_of_ble_eq_true rfl) (Nat.le_of_ble_eq_true rfl) ?_
    exact W.vret hx hb hr (fun t ht9 hW9 => ⟨⟨(), rfl, trivial, trivial⟩, hS.F ht9⟩) hS.2.2 dJ5_ensureCapacityInternal_d00df_38 hlocks
  · exact absurd c_1 (by decide)
set_option maxHeartbeats 4000000 in
set_option maxRecDepth 100000 in
theorem k_J5_inflateIfNeededFor_a7421 (l : Launch) (D : va_G) (g : Nat → ClassId) (z0 sz : Nat) (a : Nat → Nat) (h0 : Nat) (h1 : Nat) (fh1 : Nat → Int32) (hfh1 : ∀ j : Nat, fits .byte (.int (fh1 j)) = true) : Met l yJ5_inflateIfNeededFor_a7421 (.code yJ5_inflateIfNeededFor_a7421 cJ5_inflateIfNeededFor_a7421 2 none :: TG) (rmk 1 0 0 20) (va_Pc [.ref h0, .ref (g 200)] (PP D g z0 sz [(h0, .inr (1, [.ref h1, .int 0, .int 0, .int 0]))])) (va_Qv (fun (u : Unit) => True) (fun (_ : Unit) (_ : State) => True) (va_A [] sz)) 0 0 (va_A [] sz) := by
  refine met0 (cc := cJ5_inflateIfNeededFor_a7421) (n := 2) (by decide) (Nat.le_of_ble_eq_true rfl) ?_
  intro p e s m args below meth c hx hb hr hml hown ht hlocks hnm hP0 hD0 hK hZ hsz hz ls hl
  subst hsz
  have hA : ∀ q : Nat, s.heap.size ≤ q → va_A [] s.heap.size q := Anw
  have hAz : ∀ q, va_A [] s.heap.size q → z0 ≤ q := A0z hz
  have hS : va_S (va_A [] s.heap.size) s.heap s.heap [] := va_S.rf
  have hl : lv_has ls 2 [(0, .ref h0), (1, .ref (g 200))] := hl
  refine va_gets (C := "java/lang/String") (n := "COMPACT_STRINGS") (d := "Z") (v := .int 1) hx hb (hZ.m hAz).2.2.2.1 hS hown (ht _ w_1296) (fun _ h9 => h9) dJ5_inflateIfNeededFor_a7421_0 ?_
  refine lv_if_eq (tgt := 21) hx hb dJ5_inflateIfNeededFor_a7421_3 (by decide) (fun c_1 => ?_) (fun c_1 => ?_)
  · exact absurd c_1 (by decide)
  · refine lv_aload_n hx hb dJ5_inflateIfNeededFor_a7421_6 rfl (lv_at hl 0 rfl) ?_
    refine va_get (D := D) (ci := 1) (v := .int 0) (C := RJ4) (T := TJ4) (N := 4) hx hb ht in_J4 hown hK.1 (ro0 hP0 hS) 0 rfl rfl 1 (by decide) (ht _ w_1299) (fun _ h9 => h9) rfl dJ5_inflateIfNeededFor_a7421_7 ?_
    refine lv_aload_n hx hb dJ5_inflateIfNeededFor_a7421_10 rfl (lv_at hl 1 rfl) ?_
    have hPc : va_P D vwCl [] _ := (ro0 hP0 hS).sub (ws' := []) [] rfl
    have hDc : va_D (fun q => z0 ≤ q) [] := hD0.pick (ws' := []) [] (by decide) rfl
    have hFc := AnA (ws := []) hS.1
    refine va_calli (va_runV (As := []) (rest := [.int 0]) ⟨hx, hb, hml, hown, ht⟩ (k_J0_coder_7d493_v2 l D g z0 _ a) (cwV 0 ht (gV w_1314 w_398 w_399 w_394 w_397) rfl rfl rfl (by decide +kernel) (le2 rfl rfl)) ⟨PP.blind, vk_recv (i := 0) (hZ.m hAz).2.2.1 (by decide) hS, PP.mk' hK hZ hz hAz hS hPc hDc⟩ rfl rfl hl.1 rfl (lv_room (Nat.le_of_ble_eq_true rfl)) dJ5_inflateIfNeededFor_a7421_11 (le2 rfl rfl)) hS (fun q _ h => hFc q h) hFc (fun r u t H locs ht1 hvm hw hB hz1 hk1 hS => ?_)
    obtain ⟨rfl, hw⟩ := hw
    refine lv_icmp_eq (tgt := 21) hx hb dJ5_inflateIfNeededFor_a7421_14 (by decide) (fun c_2 => ?_) (fun c_2 => ?_)
    · refine W.widen (k := 0) (n := 0) (Nat.le_of_ble_eq_true rfl) (Nat.le_of_ble_eq_true rfl) ?_
      exact W.vret hx hb hr (fun t ht9 hW9 => ⟨⟨(), rfl, trivial, trivial⟩, hS.F ht9⟩) hS.2.2 dJ5_inflateIfNeededFor_a7421_21 hlocks
    · exact absurd c_2 (by decide)
set_option maxHeartbeats 4000000 in
set_option maxRecDepth 100000 in
theorem k_J0_getBytes_840e7 (l : Launch) (D : va_G) (g : Nat → ClassId) (z0 sz : Nat) (a : Nat → Nat) (h0 : Nat) (fh0 : Nat → Int32) (hfh0 : ∀ j : Nat, fits .byte (.int (fh0 j)) = true) : Met l yJ0_getBytes_840e7 (.code yJ0_getBytes_840e7 cJ0_getBytes_840e7 4 none :: TG) (rmk 1 0 0 64) (va_Pc [.ref (g 200), .ref h0, .int 0, .int 0] (PP D g z0 sz [(h0, .inl (g 5, 16, .inl fh0))])) (va_Qv (fun (u : Unit) => True) (fun (u : Unit) (t : State) => va_P D vwCl [(h0, .inl (g 5, 16, .inl fh0))] t.heap ∧ va_D (va_A [(h0, .inl (g 5, 16, .inl fh0))] sz) [(h0, .inl (g 5, 16, .inl fh0))]) (va_A [(h0, .inl (g 5, 16, .inl fh0))] sz)) 0 0 (va_A [(h0, .inl (g 5, 16, .inl fh0))] sz) := by
  refine met0 (cc := cJ0_getBytes_840e7) (n := 4) (by decide) (Nat.le_of_ble_eq_true rfl) ?_
  intro p e s m args below meth c hx hb hr hml hown ht hlocks hnm hP0 hD0 hK hZ hsz hz ls hl
  subst hsz
  have hA : ∀ q : Nat, s.heap.size ≤ q → va_A [(h0, .inl (g 5, 16, .inl fh0))] s.heap.size q := Anw
  have hAz : ∀ q, va_A [(h0, .inl (g 5, 16, .inl fh0))] s.heap.size q → z0 ≤ q := Awz hz hD0
  have hS : va_S (va_A [(h0, .inl (g 5, 16, .inl fh0))] s.heap.size) s.heap s.heap [] := va_S.rf
  have hD : va_D (va_A [(h0, .inl (g 5, 16, .inl fh0))] s.heap.size) [(h0, .inl (g 5, 16, .inl fh0))] := hD0.self
  have hP : va_P D vwCl [(h0, .inl (g 5, 16, .inl fh0))] s.heap := hP0
  have hl : lv_has ls 4 [(0, .ref (g 200)), (1, .ref h0), (2, .int 0), (3, .int 0)] := hl
  refine lv_aload_n hx hb dJ0_getBytes_840e7_0 rfl (lv_at hl 0 rfl) ?_
  have hPc : va_P D vwCl [] _ := hP.sub (ws' := []) [] rfl
  have hDc : va_D (fun q => z0 ≤ q) [] := (hD.to hAz).pick (ws' := []) [] (by decide) rfl
  have hFc := AnA (ws := [(h0, .inl (g 5, 16, .inl fh0))]) hS.1
  refine va_calli (va_runV (As := []) (rest := []) ⟨hx, hb, hml, hown, ht⟩ (k_J0_coder_7d493_v2 l D g z0 _ a) (cwV 0 ht (gV w_396 w_398 w_399 w_394 w_397) rfl rfl rfl (by decide +kernel) (le2 rfl rfl)) ⟨PP.blind, vk_recv (i := 0) (hZ.m hAz).2.2.1 (by decide) hS, PP.mk' hK hZ hz hAz hS hPc hDc⟩ rfl rfl hl.1 rfl (lv_room (Nat.le_of_ble_eq_true rfl)) dJ0_getBytes_840e7_1 (le2 rfl rfl)) hS (fun q _ h => hFc q h) hFc (fun r u t H locs ht1 hvm hw hB hz1 hk1 hS => ?_)
  obtain ⟨rfl, hw⟩ := hw
  have hP := ro1 hP hk1
  refine lv_iload_n hx hb dJ0_getBytes_840e7_4 rfl (lv_at hl 3 rfl) ?_
  refine lv_icmp_ne (tgt := 28) hx hb dJ0_getBytes_840e7_5 (by decide) (fun c_1 => ?_) (fun c_1 => ?_)
  · exact absurd c_1 (by decide)
  · refine lv_aload_n hx hb dJ0_getBytes_840e7_8 rfl (lv_at hl 0 rfl) ?_
    refine vk_getf (v := .ref (g 300)) hx hb ((hZ.m hAz).2.2.1.1 0 (by decide)).2.2.1 hS hown (ht _ w_395) (fun _ h9 => h9) dJ0_getBytes_840e7_9 ?_
    refine lv_iconst (v := 0) hx hb dJ0_getBytes_840e7_12 (by decide) ?_
    refine lv_aload_n hx hb dJ0_getBytes_840e7_13 rfl (lv_at hl 1 rfl) ?_
    refine lv_iload_n hx hb dJ0_getBytes_840e7_14 rfl (lv_at hl 2 rfl) ?_
    refine lv_iload_n hx hb dJ0_getBytes_840e7_15 rfl (lv_at hl 3 rfl) ?_
    refine lv_ishl hx hb dJ0_getBytes_840e7_16 ?_
    refine r_topi (v := 0) (by decide) ?_
    refine lv_aload_n hx hb dJ0_getBytes_840e7_17 rfl (lv_at hl 0 rfl) ?_
    refine vk_getf (v := .ref (g 300)) hx hb ((hZ.m hAz).2.2.1.1 0 (by decide)).2.2.1 hS hown (ht _ w_395) (fun _ h9 => h9) dJ0_getBytes_840e7_18 ?_
    refine va_tlen (v := 0) hx hb ((hZ.m hAz).2.2.1.1 0 (by decide)).2.2.2 hS rfl dJ0_getBytes_840e7_21 ?_
    refine vk_copyt (f := fun j => (sByt.getD 0 []).getD j 0) hx hb (hml.trans hl.1.symm) hown (ht _ w_1320) (ht _ w_1321) (ht _ w_1322) (ht _ w_1323) hK.1 hP hD hS ((hZ.m hAz).2.2.1.1 0 (by decide)).2.2.2 0 5 rfl rfl (by decide) (by decide) (by decide) (by decide) (by decide) (fun i hi => absurd hi (Nat.not_lt_zero i)) (Nat.le_of_ble_eq_true rfl) (Nat.le_of_ble_eq_true rfl) dJ0_getBytes_840e7_22 (fun H locs hP hD hS => ?_)
    rw [cpy0z] at hP hD
    have hP : va_P D vwCl [(h0, .inl (g 5, 16, .inl fh0))] H := hP
    have hD : va_D (va_A [(h0, .inl (g 5, 16, .inl fh0))] s.heap.size) [(h0, .inl (g 5, 16, .inl fh0))] := hD
    refine lv_goto (tgt := 43) hx hb dJ0_getBytes_840e7_25 (by decide) ?_
    have hP9 := hP.sub (ws' := [(h0, .inl (g 5, 16, .inl fh0))]) [0] rfl
    have hD9 := hD.sub (ws' := [(h0, .inl (g 5, 16, .inl fh0))]) [0] (by decide) rfl
    refine W.widen (k := 0) (n := 0) (Nat.le_of_ble_eq_true rfl) (Nat.le_of_ble_eq_true rfl) ?_
    exact W.vret hx hb hr (fun t ht9 hW9 => ⟨⟨(), rfl, trivial, ⟨(by rw [ht9]; exact hP9), hD9⟩⟩, hS.F ht9⟩) hS.2.2 dJ0_getBytes_840e7_43 hlocks
set_option maxHeartbeats 4000000 in
set_option maxRecDepth 100000 in
theorem k_J5_putStringAt_47b60 (l : Launch) (D : va_G) (g : Nat → ClassId) (z0 sz : Nat) (a : Nat → Nat) (h0 : Nat) (h1 : Nat) (fh1 : Nat → Int32) (hfh1 : ∀ j : Nat, fits .byte (.int (fh1 j)) = true) : Met l yJ5_putStringAt_47b60 (.code yJ5_putStringAt_47b60 cJ5_putStringAt_47b60 3 none :: TG) (rmk 2 0 0 87) (va_Pc [.ref h0, .int 0, .ref (g 200)] (PP D g z0 sz [(h0, .inr (1, [.ref h1, .int 0, .int 0, .int 0])), (h1, .inl (g 5, 16, .inl fh1))])) (va_Qv (fun (u : Unit) => True) (fun (u : Unit) (t : State) => va_P D vwCl [(h0, .inr (1, [.ref h1, .int 0, .int 0, .int 0])), (h1, .inl (g 5, 16, .inl fh1))] t.heap ∧ va_D (va_A [(h0, .inr (1, [.ref h1, .int 0, .int 0, .int 0])), (h1, .inl (g 5, 16, .inl fh1))] sz) [(h0, .inr (1, [.ref h1, .int 0, .int 0, .int 0])), (h1, .inl (g 5, 16, .inl fh1))]) (va_A [(h0, .inr (1, [.ref h1, .int 0, .int 0, .int 0])), (h1, .inl (g 5, 16, .inl fh1))] sz)) 0 0 (va_A [(h0, .inr (1, [.ref h1, .int 0, .int 0, .int 0])), (h1, .inl (g 5, 16, .inl fh1))] sz) := by
  refine met0 (cc := cJ5_putStringAt_47b60) (n := 3) (by decide) (Nat.le_of_ble_eq_true rfl) ?_
  intro p e s m args below meth c hx hb hr hml hown ht hlocks hnm hP0 hD0 hK hZ hsz hz ls hl
  subst hsz
  have hA : ∀ q : Nat, s.heap.size ≤ q → va_A [(h0, .inr (1, [.ref h1, .int 0, .int 0, .int 0])), (h1, .inl (g 5, 16, .inl fh1))] s.heap.size q := Anw
  have hAz : ∀ q, va_A [(h0, .inr (1, [.ref h1, .int 0, .int 0, .int 0])), (h1, .inl (g 5, 16, .inl fh1))] s.heap.size q → z0 ≤ q := Awz hz hD0
  have hS : va_S (va_A [(h0, .inr (1, [.ref h1, .int 0, .int 0, .int 0])), (h1, .inl (g 5, 16, .inl fh1))] s.heap.size) s.heap s.heap [] := va_S.rf
  have hD : va_D (va_A [(h0, .inr (1, [.ref h1, .int 0, .int 0, .int 0])), (h1, .inl (g 5, 16, .inl fh1))] s.heap.size) [(h0, .inr (1, [.ref h1, .int 0, .int 0, .int 0])), (h1, .inl (g 5, 16, .inl fh1))] := hD0.self
  have hP : va_P D vwCl [(h0, .inr (1, [.ref h1, .int 0, .int 0, .int 0])), (h1, .inl (g 5, 16, .inl fh1))] s.heap := hP0
  have hl : lv_has ls 3 [(0, .ref h0), (1, .int 0), (2, .ref (g 200))] := hl
  refine lv_aload_n hx hb dJ5_putStringAt_47b60_0 rfl (lv_at hl 0 rfl) ?_
  refine lv_aload_n hx hb dJ5_putStringAt_47b60_1 rfl (lv_at hl 2 rfl) ?_
  have hPc : va_P D vwCl [(h0, .inr (1, [.ref h1, .int 0, .int 0, .int 0]))] _ := hP.sub (ws' := [(h0, .inr (1, [.ref h1, .int 0, .int 0, .int 0]))]) [0] rfl
  have hDc : va_D (fun q => z0 ≤ q) [(h0, .inr (1, [.ref h1, .int 0, .int 0, .int 0]))] := (hD.to hAz).pick (ws' := [(h0, .inr (1, [.ref h1, .int 0, .int 0, .int 0]))]) [0] (by decide) rfl
  have hFc := AnA (ws := [(h0, .inr (1, [.ref h1, .int 0, .int 0, .int 0])), (h1, .inl (g 5, 16, .inl fh1))]) hS.1
  refine va_callv (va_runU (As := [.ref (g 200)]) (rest := []) ⟨hx, hb, hml, hown, ht⟩ (k_J5_inflateIfNeededFor_a7421 l D g z0 _ a h0 h1 fh1 hfh1) (va_cwU (owner := "java/lang/AbstractStringBuilder") 1 ht (gU w_1315 w_1317 w_1318 w_1319 w_1302 w_1316) rfl rfl rfl rfl (by decide +kernel) (le2 rfl rfl)) ⟨PP.blind, va_recv hK.1 hP (ci := 1) (q0 := 0) rfl rfl, PP.mk' hK hZ hz hAz hS hPc hDc⟩ rfl rfl hl.1 rfl (lv_room (Nat.le_of_ble_eq_true rfl)) dJ5_putStringAt_47b60_2 (le2 rfl rfl)) hS (fun q _ h => hFc q h) hFc (fun u t H locs ht1 hvm hw hB hz1 hk1 hS => ?_)
  have hP := ro1 hP hk1
  refine lv_aload_n hx hb dJ5_putStringAt_47b60_5 rfl (lv_at hl 2 rfl) ?_
  refine lv_aload_n hx hb dJ5_putStringAt_47b60_6 rfl (lv_at hl 0 rfl) ?_
  refine va_get (D := D) (ci := 1) (v := .ref h1) (C := RJ4) (T := TJ4) (N := 4) hx hb ht in_J4 hown hK.1 hP 0 rfl rfl 0 (by decide) (ht _ w_1298) (fun _ h9 => h9) rfl dJ5_putStringAt_47b60_7 ?_
  refine lv_iload_n hx hb dJ5_putStringAt_47b60_10 rfl (lv_at hl 1 rfl) ?_
  refine lv_aload_n hx hb dJ5_putStringAt_47b60_11 rfl (lv_at hl 0 rfl) ?_
  refine va_get (D := D) (ci := 1) (v := .int 0) (C := RJ4) (T := TJ4) (N := 4) hx hb ht in_J4 hown hK.1 hP 0 rfl rfl 1 (by decide) (ht _ w_1299) (fun _ h9 => h9) rfl dJ5_putStringAt_47b60_12 ?_
  have hPc : va_P D vwCl [(h1, .inl (g 5, 16, .inl fh1))] _ := hP.sub (ws' := [(h1, .inl (g 5, 16, .inl fh1))]) [1] rfl
  have hDc : va_D (fun q => z0 ≤ q) [(h1, .inl (g 5, 16, .inl fh1))] := (hD.to hAz).pick (ws' := [(h1, .inl (g 5, 16, .inl fh1))]) [1] (by decide) rfl
  have hFc := va_free (wc := [(h1, .inl (g 5, 16, .inl fh1))]) hD hS hA [1] rfl
  refine va_callv (va_runV (As := [.ref h1, .int 0, .int 0]) (rest := []) ⟨hx, hb, hml, hown, ht⟩ (k_J0_getBytes_840e7 l D g z0 _ a h1 fh1 hfh1) (cwV 3 ht (gV w_1324 w_1326 w_1327 w_394 w_1325) rfl rfl rfl (by decide +kernel) (le2 rfl rfl)) ⟨PP.blind, vk_recv (i := 0) (hZ.m hAz).2.2.1 (by decide) hS, PP.mk' hK hZ hz hAz hS hPc hDc⟩ rfl rfl hl.1 rfl (lv_room (Nat.le_of_ble_eq_true rfl)) dJ5_putStringAt_47b60_15 (le2 rfl rfl)) hS (fun q _ h => hFc q h) hFc (fun u t H locs ht1 hvm hw hB hz1 hk1 hS => ?_)
  obtain ⟨hP1, hD1⟩ := hB
  rw [ht1] at hP1
  obtain ⟨hP, hD⟩ := va_join (wr := [(h0, .inr (1, [.ref h1, .int 0, .int 0, .int 0]))]) (w1 := [(h1, .inl (g 5, 16, .inl fh1))]) hP hD [1] [0] rfl rfl (by decide) (by decide) hk1 hFc hP1 hD1
  have hP : va_P D vwCl [(h0, .inr (1, [.ref h1, .int 0, .int 0, .int 0])), (h1, .inl (g 5, 16, .inl fh1))] H := hP
  have hD : va_D (va_A [(h0, .inr (1, [.ref h1, .int 0, .int 0, .int 0])), (h1, .inl (g 5, 16, .inl fh1))] s.heap.size) [(h0, .inr (1, [.ref h1, .int 0, .int 0, .int 0])), (h1, .inl (g 5, 16, .inl fh1))] := hD
  have hP9 := hP.sub (ws' := [(h0, .inr (1, [.ref h1, .int 0, .int 0, .int 0])), (h1, .inl (g 5, 16, .inl fh1))]) [0, 1] rfl
  have hD9 := hD.sub (ws' := [(h0, .inr (1, [.ref h1, .int 0, .int 0, .int 0])), (h1, .inl (g 5, 16, .inl fh1))]) [0, 1] (by decide) rfl
  refine W.widen (k := 0) (n := 0) (Nat.le_of_ble_eq_true rfl) (Nat.le_of_ble_eq_true rfl) ?_
  exact W.vret hx hb hr (fun t ht9 hW9 => ⟨⟨(), rfl, trivial, ⟨(by rw [ht9]; exact hP9), hD9⟩⟩, hS.F ht9⟩) hS.2.2 dJ5_putStringAt_47b60_18 hlocks
set_option maxHeartbeats 4000000 in
set_option maxRecDepth 100000 in
theorem k_J5_append_cf1ce (l : Launch) (D : va_G) (g : Nat → ClassId) (z0 sz : Nat) (a : Nat → Nat) (h0 : Nat) (h1 : Nat) (fh1 : Nat → Int32) (hfh1 : ∀ j : Nat, fits .byte (.int (fh1 j)) = true) : Met l yJ5_append_cf1ce (.code yJ5_append_cf1ce cJ5_append_cf1ce 3 (some (.object "java/lang/AbstractStringBuilder")) :: TG) (rmk 3 0 0 109) (va_Pc [.ref h0, .ref (g 200)] (PP D g z0 sz [(h0, .inr (1, [.ref h1, .int 0, .int 0, .int 0])), (h1, .inl (g 5, 16, .inl fh1))])) (va_Qr (fun (u : Unit) => True) (fun (u : Unit) (r : Nat) (t : State) => h0 = r ∧ va_P D vwCl [(h0, .inr (1, [.ref h1, .int 0, .int 0, .int 0])), (h1, .inl (g 5, 16, .inl fh1))] t.heap ∧ va_D (va_A [(h0, .inr (1, [.ref h1, .int 0, .int 0, .int 0])), (h1, .inl (g 5, 16, .inl fh1))] sz) [(h0, .inr (1, [.ref h1, .int 0, .int 0, .int 0])), (h1, .inl (g 5, 16, .inl fh1))]) (va_A [(h0, .inr (1, [.ref h1, .int 0, .int 0, .int 0])), (h1, .inl (g 5, 16, .inl fh1))] sz)) 0 0 (va_A [(h0, .inr (1, [.ref h1, .int 0, .int 0, .int 0])), (h1, .inl (g 5, 16, .inl fh1))] sz) := by
  refine met0 (cc := cJ5_append_cf1ce) (n := 3) (by decide) (Nat.le_of_ble_eq_true rfl) ?_
  intro p e s m args below meth c hx hb hr hml hown ht hlocks hnm hP0 hD0 hK hZ hsz hz ls hl
  subst hsz
  have hA : ∀ q : Nat, s.heap.size ≤ q → va_A [(h0, .inr (1, [.ref h1, .int 0, .int 0, .int 0])), (h1, .inl (g 5, 16, .inl fh1))] s.heap.size q := Anw
  have hAz : ∀ q, va_A [(h0, .inr (1, [.ref h1, .int 0, .int 0, .int 0])), (h1, .inl (g 5, 16, .inl fh1))] s.heap.size q → z0 ≤ q := Awz hz hD0
  have hS : va_S (va_A [(h0, .inr (1, [.ref h1, .int 0, .int 0, .int 0])), (h1, .inl (g 5, 16, .inl fh1))] s.heap.size) s.heap s.heap [] := va_S.rf
  have hD : va_D (va_A [(h0, .inr (1, [.ref h1, .int 0, .int 0, .int 0])), (h1, .inl (g 5, 16, .inl fh1))] s.heap.size) [(h0, .inr (1, [.ref h1, .int 0, .int 0, .int 0])), (h1, .inl (g 5, 16, .inl fh1))] := hD0.self
  have hP : va_P D vwCl [(h0, .inr (1, [.ref h1, .int 0, .int 0, .int 0])), (h1, .inl (g 5, 16, .inl fh1))] s.heap := hP0
  have hl : lv_has ls 3 [(0, .ref h0), (1, .ref (g 200))] := hl
  refine lv_aload_n hx hb dJ5_append_cf1ce_0 rfl (lv_at hl 1 rfl) ?_
  refine lv_ifnonnull (tgt := 9) hx hb dJ5_append_cf1ce_1 (by decide) ?_
  refine lv_aload_n hx hb dJ5_append_cf1ce_9 rfl (lv_at hl 1 rfl) ?_
  have hPc : va_P D vwCl [] _ := hP.sub (ws' := []) [] rfl
  have hDc : va_D (fun q => z0 ≤ q) [] := (hD.to hAz).pick (ws' := []) [] (by decide) rfl
  have hFc := AnA (ws := [(h0, .inr (1, [.ref h1, .int 0, .int 0, .int 0])), (h1, .inl (g 5, 16, .inl fh1))]) hS.1
  refine va_calli (va_runV (As := []) (rest := []) ⟨hx, hb, hml, hown, ht⟩ (k_J0_length_8abf5_v2 l D g z0 _ a) (cwV 0 ht (gV w_1307 w_402 w_403 w_394 w_401) rfl rfl rfl (by decide +kernel) (le2 rfl rfl)) ⟨PP.blind, vk_recv (i := 0) (hZ.m hAz).2.2.1 (by decide) hS, PP.mk' hK hZ hz hAz hS hPc hDc⟩ rfl rfl hl.1 rfl (lv_room (Nat.le_of_ble_eq_true rfl)) dJ5_append_cf1ce_10 (le2 rfl rfl)) hS (fun q _ h => hFc q h) hFc (fun r u t H locs ht1 hvm hw hB hz1 hk1 hS => ?_)
  obtain ⟨rfl, hw⟩ := hw
  have hP := ro1 hP hk1
  refine lv_istore_n (lv' := [(2, .int 0), (0, .ref h0), (1, .ref (g 200))]) hx hb dJ5_append_cf1ce_13 rfl hl (by decide) rfl (fun ls hl => ?_)
  refine lv_aload_n hx hb dJ5_append_cf1ce_14 rfl (lv_at hl 1 rfl) ?_
  refine lv_aload_n hx hb dJ5_append_cf1ce_15 rfl (lv_at hl 1 rfl) ?_
  refine va_get (D := D) (ci := 1) (v := .int 0) (C := RJ4) (T := TJ4) (N := 4) hx hb ht in_J4 hown hK.1 hP 0 rfl rfl 3 (by decide) (ht _ w_1308) (fun _ h9 => h9) rfl dJ5_append_cf1ce_16 ?_
  refine lv_iload_n hx hb dJ5_append_cf1ce_19 rfl (lv_at hl 0 rfl) ?_
  refine lv_iadd hx hb dJ5_append_cf1ce_20 ?_
  refine r_topi (v := 0) (by decide) ?_
  have hPc : va_P D vwCl [(h0, .inr (1, [.ref h1, .int 0, .int 0, .int 0])), (h1, .inl (g 5, 16, .inl fh1))] _ := hP.sub (ws' := [(h0, .inr (1, [.ref h1, .int 0, .int 0, .int 0])), (h1, .inl (g 5, 16, .inl fh1))]) [0, 1] rfl
  have hDc : va_D (fun q => z0 ≤ q) [(h0, .inr (1, [.ref h1, .int 0, .int 0, .int 0])), (h1, .inl (g 5, 16, .inl fh1))] := (hD.to hAz).pick (ws' := [(h0, .inr (1, [.ref h1, .int 0, .int 0, .int 0])), (h1, .inl (g 5, 16, .inl fh1))]) [0, 1] (by decide) rfl
  have hFc := AnA (ws := [(h0, .inr (1, [.ref h1, .int 0, .int 0, .int 0])), (h1, .inl (g 5, 16, .inl fh1))]) hS.1
  refine va_callv (va_runU (As := [.int 0]) (rest := []) ⟨hx, hb, hml, hown, ht⟩ (k_J5_ensureCapacityInternal_d00df l D g z0 _ a h0 h1 fh1 hfh1) (va_cwU (owner := "java/lang/AbstractStringBuilder") 1 ht (gU w_1309 w_1311 w_1312 w_1313 w_1302 w_1310) rfl rfl rfl rfl (by decide +kernel) (le2 rfl rfl)) ⟨PP.blind, va_recv hK.1 hP (ci := 1) (q0 := 0) rfl rfl, PP.mk' hK hZ hz hAz hS hPc hDc⟩ rfl rfl hl.1 rfl (lv_room (Nat.le_of_ble_eq_true rfl)) dJ5_append_cf1ce_21 (le2 rfl rfl)) hS (fun q _ h => hFc q h) hFc (fun u t H locs ht1 hvm hw hB hz1 hk1 hS => ?_)
  have hP := ro1 hP hk1
  refine lv_aload_n hx hb dJ5_append_cf1ce_24 rfl (lv_at hl 1 rfl) ?_
  refine lv_aload_n hx hb dJ5_append_cf1ce_25 rfl (lv_at hl 1 rfl) ?_
  refine va_get (D := D) (ci := 1) (v := .int 0) (C := RJ4) (T := TJ4) (N := 4) hx hb ht in_J4 hown hK.1 hP 0 rfl rfl 3 (by decide) (ht _ w_1308) (fun _ h9 => h9) rfl dJ5_append_cf1ce_26 ?_
  refine lv_aload_n hx hb dJ5_append_cf1ce_29 rfl (lv_at hl 2 rfl) ?_
  have hPc : va_P D vwCl [(h0, .inr (1, [.ref h1, .int 0, .int 0, .int 0])), (h1, .inl (g 5, 16, .inl fh1))] _ := hP.sub (ws' := [(h0, .inr (1, [.ref h1, .int 0, .int 0, .int 0])), (h1, .inl (g 5, 16, .inl fh1))]) [0, 1] rfl
  have hDc : va_D (fun q => z0 ≤ q) [(h0, .inr (1, [.ref h1, .int 0, .int 0, .int 0])), (h1, .inl (g 5, 16, .inl fh1))] := (hD.to hAz).pick (ws' := [(h0, .inr (1, [.ref h1, .int 0, .int 0, .int 0])), (h1, .inl (g 5, 16, .inl fh1))]) [0, 1] (by decide) rfl
  have hFc := va_free (wc := [(h0, .inr (1, [.ref h1, .int 0, .int 0, .int 0])), (h1, .inl (g 5, 16, .inl fh1))]) hD hS hA [0, 1] rfl
  refine va_callv (va_runU (As := [.int 0, .ref (g 200)]) (rest := []) ⟨hx, hb, hml, hown, ht⟩ (k_J5_putStringAt_47b60 l D g z0 _ a h0 h1 fh1 hfh1) (va_cwU (owner := "java/lang/AbstractStringBuilder") 2 ht (gU w_1328 w_1330 w_1331 w_1332 w_1302 w_1329) rfl rfl rfl rfl (by decide +kernel) (le2 rfl rfl)) ⟨PP.blind, va_recv hK.1 hP (ci := 1) (q0 := 0) rfl rfl, PP.mk' hK hZ hz hAz hS hPc hDc⟩ rfl rfl hl.1 rfl (lv_room (Nat.le_of_ble_eq_true rfl)) dJ5_append_cf1ce_30 (le2 rfl rfl)) hS (fun q _ h => hFc q h) hFc (fun u t H locs ht1 hvm hw hB hz1 hk1 hS => ?_)
  obtain ⟨hP1, hD1⟩ := hB
  rw [ht1] at hP1
  obtain ⟨hP, hD⟩ := va_join (wr := []) (w1 := [(h0, .inr (1, [.ref h1, .int 0, .int 0, .int 0])), (h1, .inl (g 5, 16, .inl fh1))]) hP hD [0, 1] [] rfl rfl (by decide) (by decide) hk1 hFc hP1 hD1
  have hP : va_P D vwCl [(h0, .inr (1, [.ref h1, .int 0, .int 0, .int 0])), (h1, .inl (g 5, 16, .inl fh1))] H := hP
  have hD : va_D (va_A [(h0, .inr (1, [.ref h1, .int 0, .int 0, .int 0])), (h1, .inl (g 5, 16, .inl fh1))] s.heap.size) [(h0, .inr (1, [.ref h1, .int 0, .int 0, .int 0])), (h1, .inl (g 5, 16, .inl fh1))] := hD
  refine lv_aload_n hx hb dJ5_append_cf1ce_33 rfl (lv_at hl 1 rfl) ?_
  refine lv_dup hx hb dJ5_append_cf1ce_34 rfl ?_
  refine va_get (D := D) (ci := 1) (v := .int 0) (C := RJ4) (T := TJ4) (N := 4) hx hb ht in_J4 hown hK.1 hP 0 rfl rfl 3 (by decide) (ht _ w_1308) (fun _ h9 => h9) rfl dJ5_append_cf1ce_35 ?_
  refine lv_iload_n hx hb dJ5_append_cf1ce_38 rfl (lv_at hl 0 rfl) ?_
  refine lv_iadd hx hb dJ5_append_cf1ce_39 ?_
  refine r_topi (v := 0) (by decide) ?_
  refine va_put (D := D) (ci := 1) (v := .int 0) (ty := .int) (C := RJ4) (T := TJ4) (N := 4) hx hb ht in_J4 tyJ4 tyJ4_ok nmJ4 hown hK.1 hP hD hS 0 rfl rfl 3 (by decide) (ht _ w_1308) (fun _ h9 => h9) rfl (by decide +kernel) rfl rfl (Nat.le_of_ble_eq_true rfl) dJ5_append_cf1ce_40 (fun H locs hP hD hS => ?_)
  have hP : va_P D vwCl [(h0, .inr (1, [.ref h1, .int 0, .int 0, .int 0])), (h1, .inl (g 5, 16, .inl fh1))] H := hP
  have hD : va_D (va_A [(h0, .inr (1, [.ref h1, .int 0, .int 0, .int 0])), (h1, .inl (g 5, 16, .inl fh1))] s.heap.size) [(h0, .inr (1, [.ref h1, .int 0, .int 0, .int 0])), (h1, .inl (g 5, 16, .inl fh1))] := hD
  refine lv_aload_n hx hb dJ5_append_cf1ce_43 rfl (lv_at hl 1 rfl) ?_
  have hP9 := hP.sub (ws' := [(h0, .inr (1, [.ref h1, .int 0, .int 0, .int 0])), (h1, .inl (g 5, 16, .inl fh1))]) [0, 1] rfl
  have hD9 := hD.sub (ws' := [(h0, .inr (1, [.ref h1, .int 0, .int 0, .int 0])), (h1, .inl (g 5, 16, .inl fh1))]) [0, 1] (by decide) rfl
  refine W.widen (k := 0) (n := 0) (Nat.le_of_ble_eq_true rfl) (Nat.le_of_ble_eq_true rfl) ?_
  exact W.aret (v := .ref h0) hx hb hr (Or.inl ⟨_, rfl⟩) (Or.inr ⟨_, rfl⟩) (fun t ht9 hW9 => ⟨⟨(), _, rfl, trivial, ⟨rfl, (by rw [ht9]; exact hP9), hD9⟩⟩, hS.F ht9⟩) hS.2.2 dJ5_append_cf1ce_44 hlocks
set_option maxHeartbeats 4000000 in
set_option maxRecDepth 100000 in
theorem k_J4_append_15ec4 (l : Launch) (D : va_G) (g : Nat → ClassId) (z0 sz : Nat) (a : Nat → Nat) (h0 : Nat) (h1 : Nat) (fh1 : Nat → Int32) (hfh1 : ∀ j : Nat, fits .byte (.int (fh1 j)) = true) : Met l yJ4_append_15ec4 (.code yJ4_append_15ec4 cJ4_append_15ec4 2 (some (.object "java/lang/StringBuilder")) :: TG) (rmk 4 0 0 131) (va_Pc [.ref h0, .ref (g 200)] (PP D g z0 sz [(h0, .inr (1, [.ref h1, .int 0, .int 0, .int 0])), (h1, .inl (g 5, 16, .inl fh1))])) (va_Qr (fun (u : Unit) => True) (fun (u : Unit) (r : Nat) (t : State) => h0 = r ∧ va_P D vwCl [(h0, .inr (1, [.ref h1, .int 0, .int 0, .int 0])), (h1, .inl (g 5, 16, .inl fh1))] t.heap ∧ va_D (va_A [(h0, .inr (1, [.ref h1, .int 0, .int 0, .int 0])), (h1, .inl (g 5, 16, .inl fh1))] sz) [(h0, .inr (1, [.ref h1, .int 0, .int 0, .int 0])), (h1, .inl (g 5, 16, .inl fh1))]) (va_A [(h0, .inr (1, [.ref h1, .int 0, .int 0, .int 0])), (h1, .inl (g 5, 16, .inl fh1))] sz)) 0 0 (va_A [(h0, .inr (1, [.ref h1, .int 0, .int 0, .int 0])), (h1, .inl (g 5, 16, .inl fh1))] sz) := by
  refine met0 (cc := cJ4_append_15ec4) (n := 2) (by decide) (Nat.le_of_ble_eq_true rfl) ?_
  intro p e s m args below meth c hx hb hr hml hown ht hlocks hnm hP0 hD0 hK hZ hsz hz ls hl
  subst hsz
  have hA : ∀ q : Nat, s.heap.size ≤ q → va_A [(h0, .inr (1, [.ref h1, .int 0, .int 0, .int 0])), (h1, .inl (g 5, 16, .inl fh1))] s.heap.size q := Anw
  have hAz : ∀ q, va_A [(h0, .inr (1, [.ref h1, .int 0, .int 0, .int 0])), (h1, .inl (g 5, 16, .inl fh1))] s.heap.size q → z0 ≤ q := Awz hz hD0
  have hS : va_S (va_A [(h0, .inr (1, [.ref h1, .int 0, .int 0, .int 0])), (h1, .inl (g 5, 16, .inl fh1))] s.heap.size) s.heap s.heap [] := va_S.rf
  have hD : va_D (va_A [(h0, .inr (1, [.ref h1, .int 0, .int 0, .int 0])), (h1, .inl (g 5, 16, .inl fh1))] s.heap.size) [(h0, .inr (1, [.ref h1, .int 0, .int 0, .int 0])), (h1, .inl (g 5, 16, .inl fh1))] := hD0.self
  have hP : va_P D vwCl [(h0, .inr (1, [.ref h1, .int 0, .int 0, .int 0])), (h1, .inl (g 5, 16, .inl fh1))] s.heap := hP0
  have hl : lv_has ls 2 [(0, .ref h0), (1, .ref (g 200))] := hl
  refine lv_aload_n hx hb dJ4_append_15ec4_0 rfl (lv_at hl 0 rfl) ?_
  refine lv_aload_n hx hb dJ4_append_15ec4_1 rfl (lv_at hl 1 rfl) ?_
  have hPc : va_P D vwCl [(h0, .inr (1, [.ref h1, .int 0, .int 0, .int 0])), (h1, .inl (g 5, 16, .inl fh1))] _ := hP.sub (ws' := [(h0, .inr (1, [.ref h1, .int 0, .int 0, .int 0])), (h1, .inl (g 5, 16, .inl fh1))]) [0, 1] rfl
  have hDc : va_D (fun q => z0 ≤ q) [(h0, .inr (1, [.ref h1, .int 0, .int 0, .int 0])), (h1, .inl (g 5, 16, .inl fh1))] := (hD.to hAz).pick (ws' := [(h0, .inr (1, [.ref h1, .int 0, .int 0, .int 0])), (h1, .inl (g 5, 16, .inl fh1))]) [0, 1] (by decide) rfl
  have hFc := va_free (wc := [(h0, .inr (1, [.ref h1, .int 0, .int 0, .int 0])), (h1, .inl (g 5, 16, .inl fh1))]) hD hS hA [0, 1] rfl
  refine va_callr (va_runSU (As := [.ref (g 200)]) (rest := []) (hK.1.1 1 _ rfl).2 ⟨hx, hb, hml, hown, ht⟩ (k_J5_append_cf1ce l D g z0 _ a h0 h1 fh1 hfh1) (va_cwSU 1 ht (gSU w_1333 w_1335 w_1336 w_1337 w_1302 w_1334) rfl rfl rfl (by decide +kernel) (le2 rfl rfl)) ⟨PP.blind, va_recv hK.1 hP (ci := 1) (q0 := 0) rfl rfl, PP.mk' hK hZ hz hAz hS hPc hDc⟩ rfl rfl hl.1 rfl (lv_room (Nat.le_of_ble_eq_true rfl)) dJ4_append_15ec4_2 (le2 rfl rfl)) hS (fun q _ h => hFc q h) hFc (fun u ra t H locs ht1 hvm hw hB hz1 hk1 hS => ?_)
  obtain ⟨hr9, hP1, hD1⟩ := hB
  rw [ht1] at hP1
  obtain ⟨hP, hD⟩ := va_join (wr := []) (w1 := [(h0, .inr (1, [.ref h1, .int 0, .int 0, .int 0])), (h1, .inl (g 5, 16, .inl fh1))]) hP hD [0, 1] [] rfl rfl (by decide) (by decide) hk1 hFc hP1 hD1
  subst hr9
  have hP : va_P D vwCl [(h0, .inr (1, [.ref h1, .int 0, .int 0, .int 0])), (h1, .inl (g 5, 16, .inl fh1))] H := hP
  have hD : va_D (va_A [(h0, .inr (1, [.ref h1, .int 0, .int 0, .int 0])), (h1, .inl (g 5, 16, .inl fh1))] s.heap.size) [(h0, .inr (1, [.ref h1, .int 0, .int 0, .int 0])), (h1, .inl (g 5, 16, .inl fh1))] := hD
  refine lv_pop hx hb dJ4_append_15ec4_5 rfl ?_
  refine lv_aload_n hx hb dJ4_append_15ec4_6 rfl (lv_at hl 0 rfl) ?_
  have hP9 := hP.sub (ws' := [(h0, .inr (1, [.ref h1, .int 0, .int 0, .int 0])), (h1, .inl (g 5, 16, .inl fh1))]) [0, 1] rfl
  have hD9 := hD.sub (ws' := [(h0, .inr (1, [.ref h1, .int 0, .int 0, .int 0])), (h1, .inl (g 5, 16, .inl fh1))]) [0, 1] (by decide) rfl
  refine W.widen (k := 0) (n := 0) (Nat.le_of_ble_eq_true rfl) (Nat.le_of_ble_eq_true rfl) ?_
  exact W.aret (v := .ref h0) hx hb hr (Or.inl ⟨_, rfl⟩) (Or.inr ⟨_, rfl⟩) (fun t ht9 hW9 => ⟨⟨(), _, rfl, trivial, ⟨rfl, (by rw [ht9]; exact hP9), hD9⟩⟩, hS.F ht9⟩) hS.2.2 dJ4_append_15ec4_7 hlocks
set_option maxHeartbeats 4000000 in
set_option maxRecDepth 100000 in
theorem k_J5_ensureCapacityInternal_d00df_v1 (l : Launch) (D : va_G) (g : Nat → ClassId) (z0 sz : Nat) (a : Nat → Nat) (h0 : Nat) (h1 : Nat) (fh1 : Nat → Int32) (hfh1 : ∀ j : Nat, fits .byte (.int (fh1 j)) = true) : Met l yJ5_ensureCapacityInternal_d00df (.code yJ5_ensureCapacityInternal_d00df cJ5_ensureCapacityInternal_d00df 3 none :: TG) (rmk 0 0 0 0) (va_Pc [.ref h0, .int 1] (PP D g z0 sz [(h0, .inr (1, [.ref h1, .int 0, .int 0, .int 0])), (h1, .inl (g 5, 16, .inl fh1))])) (va_Qv (fun (u : Unit) => True) (fun (_ : Unit) (_ : State) => True) (va_A [] sz)) 0 0 (va_A [] sz) := by
  refine met0 (cc := cJ5_ensureCapacityInternal_d00df) (n := 3) (by decide) (Nat.le_of_ble_eq_true rfl) ?_
  intro p e s m args below meth c hx hb hr hml hown ht hlocks hnm hP0 hD0 hK hZ hsz hz ls hl
  subst hsz
  have hA : ∀ q : Nat, s.heap.size ≤ q → va_A [] s.heap.size q := Anw
  have hAz : ∀ q, va_A [] s.heap.size q → z0 ≤ q := A0z hz
  have hS : va_S (va_A [] s.heap.size) s.heap s.heap [] := va_S.rf
  have hl : lv_has ls 3 [(0, .ref h0), (1, .int 1)] := hl
  refine lv_aload_n hx hb dJ5_ensureCapacityInternal_d00df_0 rfl (lv_at hl 0 rfl) ?_
  refine va_get (D := D) (ci := 1) (v := .ref h1) (C := RJ4) (T := TJ4) (N := 4) hx hb ht in_J4 hown hK.1 (ro0 hP0 hS) 0 rfl rfl 0 (by decide) (ht _ w_1298) (fun _ h9 => h9) rfl dJ5_ensureCapacityInternal_d00df_1 ?_
  refine va_alen (v := 16) hx hb hK.1 (ro0 hP0 hS) 1 5 rfl rfl rfl dJ5_ensureCapacityInternal_d00df_4 ?_
  refine lv_aload_n hx hb dJ5_ensureCapacityInternal_d00df_5 rfl (lv_at hl 0 rfl) ?_
  refine va_get (D := D) (ci := 1) (v := .int 0) (C := RJ4) (T := TJ4) (N := 4) hx hb ht in_J4 hown hK.1 (ro0 hP0 hS) 0 rfl rfl 1 (by decide) (ht _ w_1299) (fun _ h9 => h9) rfl dJ5_ensureCapacityInternal_d00df_6 ?_
  refine lv_ishr hx hb dJ5_ensureCapacityInternal_d00df_9 ?_
  refine r_topi (v := 16) (by decide) ?_
  refine lv_istore_n (lv' := [(2, .int 16), (0, .ref h0), (1, .int 1)]) hx hb dJ5_ensureCapacityInternal_d00df_10 rfl hl (by decide) rfl (fun ls hl => ?_)
  refine lv_iload_n hx hb dJ5_ensureCapacityInternal_d00df_11 rfl (lv_at hl 2 rfl) ?_
  refine lv_iload_n hx hb dJ5_ensureCapacityInternal_d00df_12 rfl (lv_at hl 0 rfl) ?_
  refine lv_isub hx hb dJ5_ensureCapacityInternal_d00df_13 ?_
  refine r_topi (v := (-15)) (by decide) ?_
  refine lv_if_le (tgt := 38) hx hb dJ5_ensureCapacityInternal_d00df_14 (by decide) (fun c_1 => ?_) (fun c_1 => ?_)
  · refine W.widen (k := 0) (n := 0) (Nat.le_of_ble_eq_true rfl) (Nat.le_of_ble_eq_true rfl) ?_
    exact W.vret hx hb hr (fun t ht9 hW9 => ⟨⟨(), rfl, trivial, trivial⟩, hS.F ht9⟩) hS.2.2 dJ5_ensureCapacityInternal_d00df_38 hlocks
  · exact absurd c_1 (by decide)
set_option maxHeartbeats 4000000 in
set_option maxRecDepth 100000 in
theorem k_J5_isLatin1_aae02 (l : Launch) (D : va_G) (g : Nat → ClassId) (z0 sz : Nat) (a : Nat → Nat) (h0 : Nat) (h1 : Nat) (fh1 : Nat → Int32) (hfh1 : ∀ j : Nat, fits .byte (.int (fh1 j)) = true) : Met l yJ5_isLatin1_aae02 (.code yJ5_isLatin1_aae02 cJ5_isLatin1_aae02 1 (some .boolean) :: TG) (rmk 0 0 0 0) (va_Pc [.ref h0] (PP D g z0 sz [(h0, .inr (1, [.ref h1, .int 0, .int 0, .int 0]))])) (va_Qi (fun (r : Int32) (u : Unit) => (r = 1) ∧ True) (fun (_ : Unit) (_ : State) => True) (va_A [] sz)) 0 0 (va_A [] sz) := by
  refine met0 (cc := cJ5_isLatin1_aae02) (n := 1) (by decide) (Nat.le_of_ble_eq_true rfl) ?_
  intro p e s m args below meth c hx hb hr hml hown ht hlocks hnm hP0 hD0 hK hZ hsz hz ls hl
  subst hsz
  have hA : ∀ q : Nat, s.heap.size ≤ q → va_A [] s.heap.size q := Anw
  have hAz : ∀ q, va_A [] s.heap.size q → z0 ≤ q := A0z hz
  have hS : va_S (va_A [] s.heap.size) s.heap s.heap [] := va_S.rf
  have hl : lv_has ls 1 [(0, .ref h0)] := hl
  refine va_gets (C := "java/lang/String") (n := "COMPACT_STRINGS") (d := "Z") (v := .int 1) hx hb (hZ.m hAz).2.2.2.1 hS hown (ht _ w_1296) (fun _ h9 => h9) dJ5_isLatin1_aae02_0 ?_
  refine lv_if_eq (tgt := 17) hx hb dJ5_isLatin1_aae02_3 (by decide) (fun c_1 => ?_) (fun c_1 => ?_)
  · exact absurd c_1 (by decide)
  · refine lv_aload_n hx hb dJ5_isLatin1_aae02_6 rfl (lv_at hl 0 rfl) ?_
    refine va_get (D := D) (ci := 1) (v := .int 0) (C := RJ4) (T := TJ4) (N := 4) hx hb ht in_J4 hown hK.1 (ro0 hP0 hS) 0 rfl rfl 1 (by decide) (ht _ w_1299) (fun _ h9 => h9) rfl dJ5_isLatin1_aae02_7 ?_
    refine lv_if_ne (tgt := 17) hx hb dJ5_isLatin1_aae02_10 (by decide) (fun c_2 => ?_) (fun c_2 => ?_)
    · exact absurd c_2 (by decide)
    · refine lv_iconst (v := 1) hx hb dJ5_isLatin1_aae02_13 (by decide) ?_
      refine lv_goto (tgt := 18) hx hb dJ5_isLatin1_aae02_14 (by decide) ?_
      refine W.widen (k := 0) (n := 0) (Nat.le_of_ble_eq_true rfl) (Nat.le_of_ble_eq_true rfl) ?_
      exact W.zret (v := 1) hx hb hr rfl (fun t ht9 hW9 => ⟨⟨1, (), rfl, ⟨rfl, trivial⟩, trivial⟩, hS.F ht9⟩) hS.2.2 dJ5_isLatin1_aae02_18 hlocks
set_option maxHeartbeats 4000000 in
set_option maxRecDepth 100000 in
theorem k_J1_canEncode_fc78d (l : Launch) (D : va_G) (g : Nat → ClassId) (z0 sz : Nat) (a : Nat → Nat) (p0 : Int32) (hc_p0 : isC p0) : Met l yJ1_canEncode_fc78d (.code yJ1_canEncode_fc78d cJ1_canEncode_fc78d 1 (some .boolean) :: TG) (rmk 0 0 0 0) (va_Pc [.int p0] (PP D g z0 sz [])) (va_Qi (fun (r : Int32) (u : Unit) => ((r = 0) ∧ ((255 : Int32) < p0)) ∨ ((r = 1) ∧ (¬ (255 : Int32) < p0))) (fun (_ : Unit) (_ : State) => True) (va_A [] sz)) 0 0 (va_A [] sz) := by
  refine met0 (cc := cJ1_canEncode_fc78d) (n := 1) (by decide) (Nat.le_of_ble_eq_true rfl) ?_
  intro p e s m args below meth c hx hb hr hml hown ht hlocks hnm hP0 hD0 hK hZ hsz hz ls hl
  subst hsz
  have hA : ∀ q : Nat, s.heap.size ≤ q → va_A [] s.heap.size q := Anw
  have hAz : ∀ q, va_A [] s.heap.size q → z0 ≤ q := A0z hz
  have hS : va_S (va_A [] s.heap.size) s.heap s.heap [] := va_S.rf
  have hl : lv_has ls 1 [(0, .int p0)] := hl
  refine lv_iload_n hx hb dJ1_canEncode_fc78d_0 rfl (lv_at hl 0 rfl) ?_
  refine lv_sipush (v := 255) hx hb dJ1_canEncode_fc78d_1 (by decide) ?_
  refine lv_icmp_gt (tgt := 11) hx hb dJ1_canEncode_fc78d_4 (by decide) (fun c_1 => ?_) (fun c_1 => ?_)
  · refine lv_iconst (v := 0) hx hb dJ1_canEncode_fc78d_11 (by decide) ?_
    refine W.widen (k := 0) (n := 0) (Nat.le_of_ble_eq_true rfl) (Nat.le_of_ble_eq_true rfl) ?_
    exact W.zret (v := 0) hx hb hr rfl (fun t ht9 hW9 => ⟨⟨0, (), rfl, (Or.inl ⟨rfl, c_1⟩), trivial⟩, hS.F ht9⟩) hS.2.2 dJ1_canEncode_fc78d_12 hlocks
  · refine lv_iconst (v := 1) hx hb dJ1_canEncode_fc78d_7 (by decide) ?_
    refine lv_goto (tgt := 12) hx hb dJ1_canEncode_fc78d_8 (by decide) ?_
    refine W.widen (k := 0) (n := 0) (Nat.le_of_ble_eq_true rfl) (Nat.le_of_ble_eq_true rfl) ?_
    exact W.zret (v := 1) hx hb hr rfl (fun t ht9 hW9 => ⟨⟨1, (), rfl, (Or.inr ⟨rfl, c_1⟩), trivial⟩, hS.F ht9⟩) hS.2.2 dJ1_canEncode_fc78d_12 hlocks
set_option maxHeartbeats 4000000 in
set_option maxRecDepth 100000 in
theorem k_J5_append_3fe6f (l : Launch) (D : va_G) (g : Nat → ClassId) (z0 sz : Nat) (a : Nat → Nat) (h0 : Nat) (h1 : Nat) (fh1 : Nat → Int32) (hfh1 : ∀ j : Nat, fits .byte (.int (fh1 j)) = true) (p0 : Int32) (hy0 : ¬ p0 < 0) (hy1 : ¬ (255 : Int32) < p0) (hc_p0 : isC p0) : Met l yJ5_append_3fe6f (.code yJ5_append_3fe6f cJ5_append_3fe6f 2 (some (.object "java/lang/AbstractStringBuilder")) :: TG) (rmk 1 0 0 22) (va_Pc [.ref h0, .int p0] (PP D g z0 sz [(h0, .inr (1, [.ref h1, .int 0, .int 0, .int 0])), (h1, .inl (g 5, 16, .inl fh1))])) (va_Qr (fun (u : Unit) => True) (fun (u : Unit) (r : Nat) (t : State) => h0 = r ∧ va_P D vwCl [(h0, .inr (1, [.ref h1, .int 0, .int 0, .int 1])), (h1, .inl (g 5, 16, .inl (upd fh1 (0 : Int32).toNatClampNeg (vp_nar .byte p0.toInt8.toInt32))))] t.heap ∧ va_D (va_A [(h0, .inr (1, [.ref h1, .int 0, .int 0, .int 0])), (h1, .inl (g 5, 16, .inl fh1))] sz) [(h0, .inr (1, [.ref h1, .int 0, .int 0, .int 1])), (h1, .inl (g 5, 16, .inl (upd fh1 (0 : Int32).toNatClampNeg (vp_nar .byte p0.toInt8.toInt32))))]) (va_A [(h0, .inr (1, [.ref h1, .int 0, .int 0, .int 0])), (h1, .inl (g 5, 16, .inl fh1))] sz)) 0 0 (va_A [(h0, .inr (1, [.ref h1, .int 0, .int 0, .int 0])), (h1, .inl (g 5, 16, .inl fh1))] sz) := by
  refine met0 (cc := cJ5_append_3fe6f) (n := 2) (by decide) (Nat.le_of_ble_eq_true rfl) ?_
  intro p e s m args below meth c hx hb hr hml hown ht hlocks hnm hP0 hD0 hK hZ hsz hz ls hl
  subst hsz
  have hA : ∀ q : Nat, s.heap.size ≤ q → va_A [(h0, .inr (1, [.ref h1, .int 0, .int 0, .int 0])), (h1, .inl (g 5, 16, .inl fh1))] s.heap.size q := Anw
  have hAz : ∀ q, va_A [(h0, .inr (1, [.ref h1, .int 0, .int 0, .int 0])), (h1, .inl (g 5, 16, .inl fh1))] s.heap.size q → z0 ≤ q := Awz hz hD0
  have hS : va_S (va_A [(h0, .inr (1, [.ref h1, .int 0, .int 0, .int 0])), (h1, .inl (g 5, 16, .inl fh1))] s.heap.size) s.heap s.heap [] := va_S.rf
  have hD : va_D (va_A [(h0, .inr (1, [.ref h1, .int 0, .int 0, .int 0])), (h1, .inl (g 5, 16, .inl fh1))] s.heap.size) [(h0, .inr (1, [.ref h1, .int 0, .int 0, .int 0])), (h1, .inl (g 5, 16, .inl fh1))] := hD0.self
  have hP : va_P D vwCl [(h0, .inr (1, [.ref h1, .int 0, .int 0, .int 0])), (h1, .inl (g 5, 16, .inl fh1))] s.heap := hP0
  have hl : lv_has ls 2 [(0, .ref h0), (1, .int p0)] := hl
  refine lv_aload_n hx hb dJ5_append_3fe6f_0 rfl (lv_at hl 0 rfl) ?_
  refine lv_aload_n hx hb dJ5_append_3fe6f_1 rfl (lv_at hl 0 rfl) ?_
  refine va_get (D := D) (ci := 1) (v := .int 0) (C := RJ4) (T := TJ4) (N := 4) hx hb ht in_J4 hown hK.1 hP 0 rfl rfl 3 (by decide) (ht _ w_1308) (fun _ h9 => h9) rfl dJ5_append_3fe6f_2 ?_
  refine lv_iconst (v := 1) hx hb dJ5_append_3fe6f_5 (by decide) ?_
  refine lv_iadd hx hb dJ5_append_3fe6f_6 ?_
  refine r_topi (v := 1) (by decide) ?_
  have hPc : va_P D vwCl [(h0, .inr (1, [.ref h1, .int 0, .int 0, .int 0])), (h1, .inl (g 5, 16, .inl fh1))] _ := hP.sub (ws' := [(h0, .inr (1, [.ref h1, .int 0, .int 0, .int 0])), (h1, .inl (g 5, 16, .inl fh1))]) [0, 1] rfl
  have hDc : va_D (fun q => z0 ≤ q) [(h0, .inr (1, [.ref h1, .int 0, .int 0, .int 0])), (h1, .inl (g 5, 16, .inl fh1))] := (hD.to hAz).pick (ws' := [(h0, .inr (1, [.ref h1, .int 0, .int 0, .int 0])), (h1, .inl (g 5, 16, .inl fh1))]) [0, 1] (by decide) rfl
  have hFc := AnA (ws := [(h0, .inr (1, [.ref h1, .int 0, .int 0, .int 0])), (h1, .inl (g 5, 16, .inl fh1))]) hS.1
  refine va_callv (va_runU (As := [.int 1]) (rest := []) ⟨hx, hb, hml, hown, ht⟩ (k_J5_ensureCapacityInternal_d00df_v1 l D g z0 _ a h0 h1 fh1 hfh1) (va_cwU (owner := "java/lang/AbstractStringBuilder") 1 ht (gU w_1309 w_1311 w_1312 w_1313 w_1302 w_1310) rfl rfl rfl rfl (by decide +kernel) (le2 rfl rfl)) ⟨PP.blind, va_recv hK.1 hP (ci := 1) (q0 := 0) rfl rfl, PP.mk' hK hZ hz hAz hS hPc hDc⟩ rfl rfl hl.1 rfl (lv_room (Nat.le_of_ble_eq_true rfl)) dJ5_append_3fe6f_7 (le2 rfl rfl)) hS (fun q _ h => hFc q h) hFc (fun u t H locs ht1 hvm hw hB hz1 hk1 hS => ?_)
  have hP := ro1 hP hk1
  refine lv_aload_n hx hb dJ5_append_3fe6f_10 rfl (lv_at hl 0 rfl) ?_
  have hPc : va_P D vwCl [(h0, .inr (1, [.ref h1, .int 0, .int 0, .int 0]))] _ := hP.sub (ws' := [(h0, .inr (1, [.ref h1, .int 0, .int 0, .int 0]))]) [0] rfl
  have hDc : va_D (fun q => z0 ≤ q) [(h0, .inr (1, [.ref h1, .int 0, .int 0, .int 0]))] := (hD.to hAz).pick (ws' := [(h0, .inr (1, [.ref h1, .int 0, .int 0, .int 0]))]) [0] (by decide) rfl
  have hFc := AnA (ws := [(h0, .inr (1, [.ref h1, .int 0, .int 0, .int 0])), (h1, .inl (g 5, 16, .inl fh1))]) hS.1
  refine va_calli (va_runU (As := []) (rest := []) ⟨hx, hb, hml, hown, ht⟩ (k_J5_isLatin1_aae02 l D g z0 _ a h0 h1 fh1 hfh1) (va_cwU (owner := "java/lang/AbstractStringBuilder") 0 ht (gU w_1342 w_1344 w_1345 w_1346 w_1302 w_1343) rfl rfl rfl rfl (by decide +kernel) (le2 rfl rfl)) ⟨PP.blind, va_recv hK.1 hP (ci := 1) (q0 := 0) rfl rfl, PP.mk' hK hZ hz hAz hS hPc hDc⟩ rfl rfl hl.1 rfl (lv_room (Nat.le_of_ble_eq_true rfl)) dJ5_append_3fe6f_11 (le2 rfl rfl)) hS (fun q _ h => hFc q h) hFc (fun r u t H locs ht1 hvm hw hB hz1 hk1 hS => ?_)
  obtain ⟨rfl, hw⟩ := hw
  have hP := ro1 hP hk1
  refine lv_if_eq (tgt := 45) hx hb dJ5_append_3fe6f_14 (by decide) (fun c_1 => ?_) (fun c_1 => ?_)
  · exact absurd c_1 (by decide)
  · refine lv_iload_n hx hb dJ5_append_3fe6f_17 rfl (lv_at hl 1 rfl) ?_
    have hPc : va_P D vwCl [] _ := hP.sub (ws' := []) [] rfl
    have hDc : va_D (fun q => z0 ≤ q) [] := (hD.to hAz).pick (ws' := []) [] (by decide) rfl
    have hFc := AnA (ws := [(h0, .inr (1, [.ref h1, .int 0, .int 0, .int 0])), (h1, .inl (g 5, 16, .inl fh1))]) hS.1
    refine va_calli (va_runS (As := [.int p0]) (rest := []) ⟨hx, hb, hml, hown, ht⟩ (k_J1_canEncode_fc78d l D g z0 _ a p0 hc_p0) (va_cwS 1 ht (gS w_1347 w_1349 w_407 w_1348) rfl rfl rfl (by decide +kernel) (le2 rfl rfl)) ⟨PP.blind, PP.mk' hK hZ hz hAz hS hPc hDc⟩ rfl rfl hl.1 rfl (lv_room (Nat.le_of_ble_eq_true rfl)) dJ5_append_3fe6f_18 (le2 rfl rfl)) hS (fun q _ h => hFc q h) hFc (fun r u t H locs ht1 hvm hw hB hz1 hk1 hS => ?_)
    rcases hw with hw | hw
    · obtain ⟨rfl, hw⟩ := hw
      have c_2 := hw
      exact absurd c_2 hy1
    · obtain ⟨rfl, hw⟩ := hw
      have c_3 := hw
      have hP := ro1 hP hk1
      refine lv_if_eq (tgt := 45) hx hb dJ5_append_3fe6f_21 (by decide) (fun c_4 => ?_) (fun c_4 => ?_)
      · exact absurd c_4 (by decide)
      · refine lv_aload_n hx hb dJ5_append_3fe6f_24 rfl (lv_at hl 0 rfl) ?_
        refine va_get (D := D) (ci := 1) (v := .ref h1) (C := RJ4) (T := TJ4) (N := 4) hx hb ht in_J4 hown hK.1 hP 0 rfl rfl 0 (by decide) (ht _ w_1298) (fun _ h9 => h9) rfl dJ5_append_3fe6f_25 ?_
        refine lv_aload_n hx hb dJ5_append_3fe6f_28 rfl (lv_at hl 0 rfl) ?_
        refine lv_dup hx hb dJ5_append_3fe6f_29 rfl ?_
        refine va_get (D := D) (ci := 1) (v := .int 0) (C := RJ4) (T := TJ4) (N := 4) hx hb ht in_J4 hown hK.1 hP 0 rfl rfl 3 (by decide) (ht _ w_1308) (fun _ h9 => h9) rfl dJ5_append_3fe6f_30 ?_
        refine lv_dup_x1 hx hb dJ5_append_3fe6f_33 rfl rfl ?_
        refine lv_iconst (v := 1) hx hb dJ5_append_3fe6f_34 (by decide) ?_
        refine lv_iadd hx hb dJ5_append_3fe6f_35 ?_
        refine r_topi (v := 1) (by decide) ?_
        refine va_put (D := D) (ci := 1) (v := .int 1) (ty := .int) (C := RJ4) (T := TJ4) (N := 4) hx hb ht in_J4 tyJ4 tyJ4_ok nmJ4 hown hK.1 hP hD hS 0 rfl rfl 3 (by decide) (ht _ w_1308) (fun _ h9 => h9) rfl (by decide +kernel) rfl rfl (Nat.le_of_ble_eq_true rfl) dJ5_append_3fe6f_36 (fun H locs hP hD hS => ?_)
        have hP : va_P D vwCl [(h0, .inr (1, [.ref h1, .int 0, .int 0, .int 1])), (h1, .inl (g 5, 16, .inl fh1))] H := hP
        have hD : va_D (va_A [(h0, .inr (1, [.ref h1, .int 0, .int 0, .int 0])), (h1, .inl (g 5, 16, .inl fh1))] s.heap.size) [(h0, .inr (1, [.ref h1, .int 0, .int 0, .int 1])), (h1, .inl (g 5, 16, .inl fh1))] := hD
        refine lv_iload_n hx hb dJ5_append_3fe6f_39 rfl (lv_at hl 1 rfl) ?_
        refine lv_i2b (v := p0.toInt8.toInt32) hx hb dJ5_append_3fe6f_40 rfl ?_
        refine va_bast hx hb hK.1 hP hD hS 1 5 rfl rfl (by unfold vp_in; decide) dJ5_append_3fe6f_41 (fun H locs hP hD hS => ?_)
        have hP : va_P D vwCl [(h0, .inr (1, [.ref h1, .int 0, .int 0, .int 1])), (h1, .inl (g 5, 16, .inl (upd fh1 (0 : Int32).toNatClampNeg (vp_nar .byte p0.toInt8.toInt32))))] H := hP
        have hD : va_D (va_A [(h0, .inr (1, [.ref h1, .int 0, .int 0, .int 0])), (h1, .inl (g 5, 16, .inl fh1))] s.heap.size) [(h0, .inr (1, [.ref h1, .int 0, .int 0, .int 1])), (h1, .inl (g 5, 16, .inl (upd fh1 (0 : Int32).toNatClampNeg (vp_nar .byte p0.toInt8.toInt32))))] := hD
        refine lv_goto (tgt := 75) hx hb dJ5_append_3fe6f_42 (by decide) ?_
        refine lv_aload_n hx hb dJ5_append_3fe6f_75 rfl (lv_at hl 0 rfl) ?_
        have hP9 := hP.sub (ws' := [(h0, .inr (1, [.ref h1, .int 0, .int 0, .int 1])), (h1, .inl (g 5, 16, .inl (upd fh1 (0 : Int32).toNatClampNeg (vp_nar .byte p0.toInt8.toInt32))))]) [0, 1] rfl
        have hD9 := hD.sub (ws' := [(h0, .inr (1, [.ref h1, .int 0, .int 0, .int 1])), (h1, .inl (g 5, 16, .inl (upd fh1 (0 : Int32).toNatClampNeg (vp_nar .byte p0.toInt8.toInt32))))]) [0, 1] (by decide) rfl
        refine W.widen (k := 0) (n := 0) (Nat.le_of_ble_eq_true rfl) (Nat.le_of_ble_eq_true rfl) ?_
        exact W.aret (v := .ref h0) hx hb hr (Or.inl ⟨_, rfl⟩) (Or.inr ⟨_, rfl⟩) (fun t ht9 hW9 => ⟨⟨(), _, rfl, trivial, ⟨rfl, (by rw [ht9]; exact hP9), hD9⟩⟩, hS.F ht9⟩) hS.2.2 dJ5_append_3fe6f_76 hlocks
set_option maxHeartbeats 4000000 in
set_option maxRecDepth 100000 in
theorem k_J4_append_cf468 (l : Launch) (D : va_G) (g : Nat → ClassId) (z0 sz : Nat) (a : Nat → Nat) (h0 : Nat) (h1 : Nat) (fh1 : Nat → Int32) (hfh1 : ∀ j : Nat, fits .byte (.int (fh1 j)) = true) (p0 : Int32) (hy0 : ¬ p0 < 0) (hy1 : ¬ (255 : Int32) < p0) (hc_p0 : isC p0) : Met l yJ4_append_cf468 (.code yJ4_append_cf468 cJ4_append_cf468 2 (some (.object "java/lang/StringBuilder")) :: TG) (rmk 2 0 0 43) (va_Pc [.ref h0, .int p0] (PP D g z0 sz [(h0, .inr (1, [.ref h1, .int 0, .int 0, .int 0])), (h1, .inl (g 5, 16, .inl fh1))])) (va_Qr (fun (u : Unit) => True) (fun (u : Unit) (r : Nat) (t : State) => h0 = r ∧ va_P D vwCl [(h0, .inr (1, [.ref h1, .int 0, .int 0, .int 1])), (h1, .inl (g 5, 16, .inl (upd fh1 (0 : Int32).toNatClampNeg (vp_nar .byte p0.toInt8.toInt32))))] t.heap ∧ va_D (va_A [(h0, .inr (1, [.ref h1, .int 0, .int 0, .int 0])), (h1, .inl (g 5, 16, .inl fh1))] sz) [(h0, .inr (1, [.ref h1, .int 0, .int 0, .int 1])), (h1, .inl (g 5, 16, .inl (upd fh1 (0 : Int32).toNatClampNeg (vp_nar .byte p0.toInt8.toInt32))))]) (va_A [(h0, .inr (1, [.ref h1, .int 0, .int 0, .int 0])), (h1, .inl (g 5, 16, .inl fh1))] sz)) 0 0 (va_A [(h0, .inr (1, [.ref h1, .int 0, .int 0, .int 0])), (h1, .inl (g 5, 16, .inl fh1))] sz) := by
  refine met0 (cc := cJ4_append_cf468) (n := 2) (by decide) (Nat.le_of_ble_eq_true rfl) ?_
  intro p e s m args below meth c hx hb hr hml hown ht hlocks hnm hP0 hD0 hK hZ hsz hz ls hl
  subst hsz
  have hA : ∀ q : Nat, s.heap.size ≤ q → va_A [(h0, .inr (1, [.ref h1, .int 0, .int 0, .int 0])), (h1, .inl (g 5, 16, .inl fh1))] s.heap.size q := Anw
  have hAz : ∀ q, va_A [(h0, .inr (1, [.ref h1, .int 0, .int 0, .int 0])), (h1, .inl (g 5, 16, .inl fh1))] s.heap.size q → z0 ≤ q := Awz hz hD0
  have hS : va_S (va_A [(h0, .inr (1, [.ref h1, .int 0, .int 0, .int 0])), (h1, .inl (g 5, 16, .inl fh1))] s.heap.size) s.heap s.heap [] := va_S.rf
  have hD : va_D (va_A [(h0, .inr (1, [.ref h1, .int 0, .int 0, .int 0])), (h1, .inl (g 5, 16, .inl fh1))] s.heap.size) [(h0, .inr (1, [.ref h1, .int 0, .int 0, .int 0])), (h1, .inl (g 5, 16, .inl fh1))] := hD0.self
  have hP : va_P D vwCl [(h0, .inr (1, [.ref h1, .int 0, .int 0, .int 0])), (h1, .inl (g 5, 16, .inl fh1))] s.heap := hP0
  have hl : lv_has ls 2 [(0, .ref h0), (1, .int p0)] := hl
  refine lv_aload_n hx hb dJ4_append_cf468_0 rfl (lv_at hl 0 rfl) ?_
  refine lv_iload_n hx hb dJ4_append_cf468_1 rfl (lv_at hl 1 rfl) ?_
  have hPc : va_P D vwCl [(h0, .inr (1, [.ref h1, .int 0, .int 0, .int 0])), (h1, .inl (g 5, 16, .inl fh1))] _ := hP.sub (ws' := [(h0, .inr (1, [.ref h1, .int 0, .int 0, .int 0])), (h1, .inl (g 5, 16, .inl fh1))]) [0, 1] rfl
  have hDc : va_D (fun q => z0 ≤ q) [(h0, .inr (1, [.ref h1, .int 0, .int 0, .int 0])), (h1, .inl (g 5, 16, .inl fh1))] := (hD.to hAz).pick (ws' := [(h0, .inr (1, [.ref h1, .int 0, .int 0, .int 0])), (h1, .inl (g 5, 16, .inl fh1))]) [0, 1] (by decide) rfl
  have hFc := va_free (wc := [(h0, .inr (1, [.ref h1, .int 0, .int 0, .int 0])), (h1, .inl (g 5, 16, .inl fh1))]) hD hS hA [0, 1] rfl
  refine va_callr (va_runSU (As := [.int p0]) (rest := []) (hK.1.1 1 _ rfl).2 ⟨hx, hb, hml, hown, ht⟩ (k_J5_append_3fe6f l D g z0 _ a h0 h1 fh1 hfh1 p0 hy0 hy1 hc_p0) (va_cwSU 1 ht (gSU w_1350 w_1352 w_1336 w_1353 w_1302 w_1351) rfl rfl rfl (by decide +kernel) (le2 rfl rfl)) ⟨PP.blind, va_recv hK.1 hP (ci := 1) (q0 := 0) rfl rfl, PP.mk' hK hZ hz hAz hS hPc hDc⟩ rfl rfl hl.1 rfl (lv_room (Nat.le_of_ble_eq_true rfl)) dJ4_append_cf468_2 (le2 rfl rfl)) hS (fun q _ h => hFc q h) hFc (fun u ra t H locs ht1 hvm hw hB hz1 hk1 hS => ?_)
  obtain ⟨hr9, hP1, hD1⟩ := hB
  rw [ht1] at hP1
  obtain ⟨hP, hD⟩ := va_join (wr := []) (w1 := [(h0, .inr (1, [.ref h1, .int 0, .int 0, .int 1])), (h1, .inl (g 5, 16, .inl (upd fh1 (0 : Int32).toNatClampNeg (vp_nar .byte p0.toInt8.toInt32))))]) hP hD [0, 1] [] rfl rfl (by decide) (by decide) hk1 hFc hP1 hD1
  subst hr9
  have hP : va_P D vwCl [(h0, .inr (1, [.ref h1, .int 0, .int 0, .int 1])), (h1, .inl (g 5, 16, .inl (upd fh1 (0 : Int32).toNatClampNeg (vp_nar .byte p0.toInt8.toInt32))))] H := hP
  have hD : va_D (va_A [(h0, .inr (1, [.ref h1, .int 0, .int 0, .int 0])), (h1, .inl (g 5, 16, .inl fh1))] s.heap.size) [(h0, .inr (1, [.ref h1, .int 0, .int 0, .int 1])), (h1, .inl (g 5, 16, .inl (upd fh1 (0 : Int32).toNatClampNeg (vp_nar .byte p0.toInt8.toInt32))))] := hD
  refine lv_pop hx hb dJ4_append_cf468_5 rfl ?_
  refine lv_aload_n hx hb dJ4_append_cf468_6 rfl (lv_at hl 0 rfl) ?_
  have hP9 := hP.sub (ws' := [(h0, .inr (1, [.ref h1, .int 0, .int 0, .int 1])), (h1, .inl (g 5, 16, .inl (upd fh1 (0 : Int32).toNatClampNeg (vp_nar .byte p0.toInt8.toInt32))))]) [0, 1] rfl
  have hD9 := hD.sub (ws' := [(h0, .inr (1, [.ref h1, .int 0, .int 0, .int 1])), (h1, .inl (g 5, 16, .inl (upd fh1 (0 : Int32).toNatClampNeg (vp_nar .byte p0.toInt8.toInt32))))]) [0, 1] (by decide) rfl
  refine W.widen (k := 0) (n := 0) (Nat.le_of_ble_eq_true rfl) (Nat.le_of_ble_eq_true rfl) ?_
  exact W.aret (v := .ref h0) hx hb hr (Or.inl ⟨_, rfl⟩) (Or.inr ⟨_, rfl⟩) (fun t ht9 hW9 => ⟨⟨(), _, rfl, trivial, ⟨rfl, (by rw [ht9]; exact hP9), hD9⟩⟩, hS.F ht9⟩) hS.2.2 dJ4_append_cf468_7 hlocks
set_option maxHeartbeats 4000000 in
set_option maxRecDepth 100000 in
theorem k_J5_getValue_6d5f1 (l : Launch) (D : va_G) (g : Nat → ClassId) (z0 sz : Nat) (a : Nat → Nat) (h0 : Nat) (h1 : Nat) (fh1 : Nat → Int32) (hfh1 : ∀ j : Nat, fits .byte (.int (fh1 j)) = true) : Met l yJ5_getValue_6d5f1 (.code yJ5_getValue_6d5f1 cJ5_getValue_6d5f1 1 (some (.array .byte)) :: TG) (rmk 0 0 0 0) (va_Pc [.ref h0] (PP D g z0 sz [(h0, .inr (1, [.ref h1, .int 0, .int 0, .int 1]))])) (va_Qr (fun (u : Unit) => True) (fun (_ : Unit) (r : Nat) (_ : State) => h1 = r) (va_A [] sz)) 0 0 (va_A [] sz) := by
  refine met0 (cc := cJ5_getValue_6d5f1) (n := 1) (by decide) (Nat.le_of_ble_eq_true rfl) ?_
  intro p e s m args below meth c hx hb hr hml hown ht hlocks hnm hP0 hD0 hK hZ hsz hz ls hl
  subst hsz
  have hA : ∀ q : Nat, s.heap.size ≤ q → va_A [] s.heap.size q := Anw
  have hAz : ∀ q, va_A [] s.heap.size q → z0 ≤ q := A0z hz
  have hS : va_S (va_A [] s.heap.size) s.heap s.heap [] := va_S.rf
  have hl : lv_has ls 1 [(0, .ref h0)] := hl
  refine lv_aload_n hx hb dJ5_getValue_6d5f1_0 rfl (lv_at hl 0 rfl) ?_
  refine va_get (D := D) (ci := 1) (v := .ref h1) (C := RJ4) (T := TJ4) (N := 4) hx hb ht in_J4 hown hK.1 (ro0 hP0 hS) 0 rfl rfl 0 (by decide) (ht _ w_1298) (fun _ h9 => h9) rfl dJ5_getValue_6d5f1_1 ?_
  refine W.widen (k := 0) (n := 0) (Nat.le_of_ble_eq_true rfl) (Nat.le_of_ble_eq_true rfl) ?_
  exact W.aret (v := .ref h1) hx hb hr (Or.inr ⟨_, rfl⟩) (Or.inr ⟨_, rfl⟩) (fun t ht9 hW9 => ⟨⟨(), _, rfl, trivial, rfl⟩, hS.F ht9⟩) hS.2.2 dJ5_getValue_6d5f1_4 hlocks
set_option maxHeartbeats 4000000 in
set_option maxRecDepth 100000 in
theorem k_J5_length_8abf5 (l : Launch) (D : va_G) (g : Nat → ClassId) (z0 sz : Nat) (a : Nat → Nat) (h0 : Nat) (h1 : Nat) (fh1 : Nat → Int32) (hfh1 : ∀ j : Nat, fits .byte (.int (fh1 j)) = true) : Met l yJ5_length_8abf5 (.code yJ5_length_8abf5 cJ5_length_8abf5 1 (some .int) :: TG) (rmk 0 0 0 0) (va_Pc [.ref h0] (PP D g z0 sz [(h0, .inr (1, [.ref h1, .int 0, .int 0, .int 1]))])) (va_Qi (fun (r : Int32) (u : Unit) => (r = 1) ∧ True) (fun (_ : Unit) (_ : State) => True) (va_A [] sz)) 0 0 (va_A [] sz) := by
  refine met0 (cc := cJ5_length_8abf5) (n := 1) (by decide) (Nat.le_of_ble_eq_true rfl) ?_
  intro p e s m args below meth c hx hb hr hml hown ht hlocks hnm hP0 hD0 hK hZ hsz hz ls hl
  subst hsz
  have hA : ∀ q : Nat, s.heap.size ≤ q → va_A [] s.heap.size q := Anw
  have hAz : ∀ q, va_A [] s.heap.size q → z0 ≤ q := A0z hz
  have hS : va_S (va_A [] s.heap.size) s.heap s.heap [] := va_S.rf
  have hl : lv_has ls 1 [(0, .ref h0)] := hl
  refine lv_aload_n hx hb dJ5_length_8abf5_0 rfl (lv_at hl 0 rfl) ?_
  refine va_get (D := D) (ci := 1) (v := .int 1) (C := RJ4) (T := TJ4) (N := 4) hx hb ht in_J4 hown hK.1 (ro0 hP0 hS) 0 rfl rfl 3 (by decide) (ht _ w_1308) (fun _ h9 => h9) rfl dJ5_length_8abf5_1 ?_
  refine W.widen (k := 0) (n := 0) (Nat.le_of_ble_eq_true rfl) (Nat.le_of_ble_eq_true rfl) ?_
  exact W.iret (v := 1) hx hb hr (fun t ht9 hW9 => ⟨⟨1, (), rfl, ⟨rfl, trivial⟩, trivial⟩, hS.F ht9⟩) hS.2.2 dJ5_length_8abf5_4 hlocks
set_option maxHeartbeats 4000000 in
set_option maxRecDepth 100000 in
theorem k_J4_length_8abf5 (l : Launch) (D : va_G) (g : Nat → ClassId) (z0 sz : Nat) (a : Nat → Nat) (h0 : Nat) (h1 : Nat) (fh1 : Nat → Int32) (hfh1 : ∀ j : Nat, fits .byte (.int (fh1 j)) = true) : Met l yJ4_length_8abf5 (.code yJ4_length_8abf5 cJ4_length_8abf5 1 (some .int) :: TG) (rmk 1 0 0 20) (va_Pc [.ref h0] (PP D g z0 sz [(h0, .inr (1, [.ref h1, .int 0, .int 0, .int 1]))])) (va_Qi (fun (r : Int32) (u : Unit) => (r = 1) ∧ True) (fun (_ : Unit) (_ : State) => True) (va_A [] sz)) 0 0 (va_A [] sz) := by
  refine met0 (cc := cJ4_length_8abf5) (n := 1) (by decide) (Nat.le_of_ble_eq_true rfl) ?_
  intro p e s m args below meth c hx hb hr hml hown ht hlocks hnm hP0 hD0 hK hZ hsz hz ls hl
  subst hsz
  have hA : ∀ q : Nat, s.heap.size ≤ q → va_A [] s.heap.size q := Anw
  have hAz : ∀ q, va_A [] s.heap.size q → z0 ≤ q := A0z hz
  have hS : va_S (va_A [] s.heap.size) s.heap s.heap [] := va_S.rf
  have hl : lv_has ls 1 [(0, .ref h0)] := hl
  refine lv_aload_n hx hb dJ4_length_8abf5_0 rfl (lv_at hl 0 rfl) ?_
  have hPc : va_P D vwCl [(h0, .inr (1, [.ref h1, .int 0, .int 0, .int 1]))] _ := (ro0 hP0 hS).sub (ws' := [(h0, .inr (1, [.ref h1, .int 0, .int 0, .int 1]))]) [0] rfl
  have hDc : va_D (fun q => z0 ≤ q) [(h0, .inr (1, [.ref h1, .int 0, .int 0, .int 1]))] := hD0.pick (ws' := [(h0, .inr (1, [.ref h1, .int 0, .int 0, .int 1]))]) [0] (by decide) rfl
  have hFc := AnA (ws := []) hS.1
  refine va_calli (va_runSU (As := []) (rest := []) (hK.1.1 1 _ rfl).2 ⟨hx, hb, hml, hown, ht⟩ (k_J5_length_8abf5 l D g z0 _ a h0 h1 fh1 hfh1) (va_cwSU 0 ht (gSU w_1366 w_1368 w_1336 w_1369 w_1302 w_1367) rfl rfl rfl (by decide +kernel) (le2 rfl rfl)) ⟨PP.blind, va_recv hK.1 (ro0 hP0 hS) (ci := 1) (q0 := 0) rfl rfl, PP.mk' hK hZ hz hAz hS hPc hDc⟩ rfl rfl hl.1 rfl (lv_room (Nat.le_of_ble_eq_true rfl)) dJ4_length_8abf5_1 (le2 rfl rfl)) hS (fun q _ h => hFc q h) hFc (fun r u t H locs ht1 hvm hw hB hz1 hk1 hS => ?_)
  obtain ⟨rfl, hw⟩ := hw
  refine W.widen (k := 0) (n := 0) (Nat.le_of_ble_eq_true rfl) (Nat.le_of_ble_eq_true rfl) ?_
  exact W.iret (v := 1) hx hb hr (fun t ht9 hW9 => ⟨⟨1, (), rfl, ⟨rfl, trivial⟩, trivial⟩, hS.F ht9⟩) hS.2.2 dJ4_length_8abf5_4 hlocks
set_option maxHeartbeats 4000000 in
set_option maxRecDepth 100000 in
theorem k_J5_isLatin1_aae02_v1 (l : Launch) (D : va_G) (g : Nat → ClassId) (z0 sz : Nat) (a : Nat → Nat) (h0 : Nat) (h1 : Nat) (fh1 : Nat → Int32) (hfh1 : ∀ j : Nat, fits .byte (.int (fh1 j)) = true) : Met l yJ5_isLatin1_aae02 (.code yJ5_isLatin1_aae02 cJ5_isLatin1_aae02 1 (some .boolean) :: TG) (rmk 0 0 0 0) (va_Pc [.ref h0] (PP D g z0 sz [(h0, .inr (1, [.ref h1, .int 0, .int 0, .int 1]))])) (va_Qi (fun (r : Int32) (u : Unit) => (r = 1) ∧ True) (fun (_ : Unit) (_ : State) => True) (va_A [] sz)) 0 0 (va_A [] sz) := by
  refine met0 (cc := cJ5_isLatin1_aae02) (n := 1) (by decide) (Nat.le_of_ble_eq_true rfl) ?_
  intro p e s m args below meth c hx hb hr hml hown ht hlocks hnm hP0 hD0 hK hZ hsz hz ls hl
  subst hsz
  have hA : ∀ q : Nat, s.heap.size ≤ q → va_A [] s.heap.size q := Anw
  have hAz : ∀ q, va_A [] s.heap.size q → z0 ≤ q := A0z hz
  have hS : va_S (va_A [] s.heap.size) s.heap s.heap [] := va_S.rf
  have hl : lv_has ls 1 [(0, .ref h0)] := hl
  refine va_gets (C := "java/lang/String") (n := "COMPACT_STRINGS") (d := "Z") (v := .int 1) hx hb (hZ.m hAz).2.2.2.1 hS hown (ht _ w_1296) (fun _ h9 => h9) dJ5_isLatin1_aae02_0 ?_
  refine lv_if_eq (tgt := 17) hx hb dJ5_isLatin1_aae02_3 (by decide) (fun c_1 => ?_) (fun c_1 => ?_)
  · exact absurd c_1 (by decide)
  · refine lv_aload_n hx hb dJ5_isLatin1_aae02_6 rfl (lv_at hl 0 rfl) ?_
    refine va_get (D := D) (ci := 1) (v := .int 0) (C := RJ4) (T := TJ4) (N := 4) hx hb ht in_J4 hown hK.1 (ro0 hP0 hS) 0 rfl rfl 1 (by decide) (ht _ w_1299) (fun _ h9 => h9) rfl dJ5_isLatin1_aae02_7 ?_
    refine lv_if_ne (tgt := 17) hx hb dJ5_isLatin1_aae02_10 (by decide) (fun c_2 => ?_) (fun c_2 => ?_)
    · exact absurd c_2 (by decide)
    · refine lv_iconst (v := 1) hx hb dJ5_isLatin1_aae02_13 (by decide) ?_
      refine lv_goto (tgt := 18) hx hb dJ5_isLatin1_aae02_14 (by decide) ?_
      refine W.widen (k := 0) (n := 0) (Nat.le_of_ble_eq_true rfl) (Nat.le_of_ble_eq_true rfl) ?_
      exact W.zret (v := 1) hx hb hr rfl (fun t ht9 hW9 => ⟨⟨1, (), rfl, ⟨rfl, trivial⟩, trivial⟩, hS.F ht9⟩) hS.2.2 dJ5_isLatin1_aae02_18 hlocks
set_option maxHeartbeats 4000000 in
set_option maxRecDepth 100000 in
theorem k_J7_checkLength_df160 (l : Launch) (D : va_G) (g : Nat → ClassId) (z0 sz : Nat) (a : Nat → Nat) : Met l yJ7_checkLength_df160 (.code yJ7_checkLength_df160 cJ7_checkLength_df160 2 none :: TG) (rmk 0 0 0 0) (va_Pc [.int 0, .int 1] (PP D g z0 sz [])) (va_Qv (fun (u : Unit) => True) (fun (_ : Unit) (_ : State) => True) (va_A [] sz)) 0 0 (va_A [] sz) := by
  refine met0 (cc := cJ7_checkLength_df160) (n := 2) (by decide) (Nat.le_of_ble_eq_true rfl) ?_
  intro p e s m args below meth c hx hb hr hml hown ht hlocks hnm hP0 hD0 hK hZ hsz hz ls hl
  subst hsz
  have hA : ∀ q : Nat, s.heap.size ≤ q → va_A [] s.heap.size q := Anw
  have hAz : ∀ q, va_A [] s.heap.size q → z0 ≤ q := A0z hz
  have hS : va_S (va_A [] s.heap.size) s.heap s.heap [] := va_S.rf
  have hl : lv_has ls 2 [(0, .int 0), (1, .int 1)] := hl
  refine lv_iload_n hx hb dJ7_checkLength_df160_0 rfl (lv_at hl 1 rfl) ?_
  refine lv_iload_n hx hb dJ7_checkLength_df160_1 rfl (lv_at hl 0 rfl) ?_
  refine lv_icmp_ge (tgt := 37) hx hb dJ7_checkLength_df160_2 (by decide) (fun c_1 => ?_) (fun c_1 => ?_)
  · refine W.widen (k := 0) (n := 0) (Nat.le_of_ble_eq_true rfl) (Nat.le_of_ble_eq_true rfl) ?_
    exact W.vret hx hb hr (fun t ht9 hW9 => ⟨⟨(), rfl, trivial, trivial⟩, hS.F ht9⟩) hS.2.2 dJ7_checkLength_df160_37 hlocks
  · exact absurd c_1 (by decide)
set_option maxHeartbeats 4000000 in
set_option maxRecDepth 100000 in
theorem k_J7_copyOfRangeByte_39247 (l : Launch) (D : va_G) (g : Nat → ClassId) (z0 sz : Nat) (a : Nat → Nat) (h0 : Nat) (fh0 : Nat → Int32) (hfh0 : ∀ j : Nat, fits .byte (.int (fh0 j)) = true) : Met l yJ7_copyOfRangeByte_39247 (.code yJ7_copyOfRangeByte_39247 cJ7_copyOfRangeByte_39247 5 (some (.array .byte)) :: TG) (rmk 1 1 1 64) (va_Pc [.ref h0, .int 0, .int 1] (PP D g z0 sz [(h0, .inl (g 5, 16, .inl fh0))])) (va_Qr (fun (u : Unit) => True) (fun (u : Unit) (r : Nat) (t : State) => ∃ (q_1 : Nat), q_1 = r ∧ va_P D vwCl [(h0, .inl (g 5, 16, .inl fh0)), (q_1, .inl (g 5, 1, .inl (va_cpy fh0 (fun _ => 0) (0 : Int32).toNatClampNeg (0 : Int32).toNatClampNeg (1 : Int32).toNatClampNeg)))] t.heap ∧ va_D (va_A [(h0, .inl (g 5, 16, .inl fh0))] sz) [(h0, .inl (g 5, 16, .inl fh0)), (q_1, .inl (g 5, 1, .inl (va_cpy fh0 (fun _ => 0) (0 : Int32).toNatClampNeg (0 : Int32).toNatClampNeg (1 : Int32).toNatClampNeg)))]) (va_A [(h0, .inl (g 5, 16, .inl fh0))] sz)) 1 1 (va_A [(h0, .inl (g 5, 16, .inl fh0))] sz) := by
  refine met0 (cc := cJ7_copyOfRangeByte_39247) (n := 5) (by decide) (Nat.le_of_ble_eq_true rfl) ?_
  intro p e s m args below meth c hx hb hr hml hown ht hlocks hnm hP0 hD0 hK hZ hsz hz ls hl
  subst hsz
  have hA : ∀ q : Nat, s.heap.size ≤ q → va_A [(h0, .inl (g 5, 16, .inl fh0))] s.heap.size q := Anw
  have hAz : ∀ q, va_A [(h0, .inl (g 5, 16, .inl fh0))] s.heap.size q → z0 ≤ q := Awz hz hD0
  have hS : va_S (va_A [(h0, .inl (g 5, 16, .inl fh0))] s.heap.size) s.heap s.heap [] := va_S.rf
  have hD : va_D (va_A [(h0, .inl (g 5, 16, .inl fh0))] s.heap.size) [(h0, .inl (g 5, 16, .inl fh0))] := hD0.self
  have hP : va_P D vwCl [(h0, .inl (g 5, 16, .inl fh0))] s.heap := hP0
  have hl : lv_has ls 5 [(0, .ref h0), (1, .int 0), (2, .int 1)] := hl
  refine lv_iload_n hx hb dJ7_copyOfRangeByte_39247_0 rfl (lv_at hl 1 rfl) ?_
  refine lv_iload_n hx hb dJ7_copyOfRangeByte_39247_1 rfl (lv_at hl 2 rfl) ?_
  have hPc : va_P D vwCl [] _ := hP.sub (ws' := []) [] rfl
  have hDc : va_D (fun q => z0 ≤ q) [] := (hD.to hAz).pick (ws' := []) [] (by decide) rfl
  have hFc := AnA (ws := [(h0, .inl (g 5, 16, .inl fh0))]) hS.1
  refine va_callv (va_runS (As := [.int 0, .int 1]) (rest := []) ⟨hx, hb, hml, hown, ht⟩ (k_J7_checkLength_df160 l D g z0 _ a) (va_cwS 2 ht (gS w_1375 w_1377 w_8 w_1376) rfl rfl rfl (by decide +kernel) (le2 rfl rfl)) ⟨PP.blind, PP.mk' hK hZ hz hAz hS hPc hDc⟩ rfl rfl hl.1 rfl (lv_room (Nat.le_of_ble_eq_true rfl)) dJ7_copyOfRangeByte_39247_2 (le2 rfl rfl)) hS (fun q _ h => hFc q h) hFc (fun u t H locs ht1 hvm hw hB hz1 hk1 hS => ?_)
  have hP := ro1 hP hk1
  refine lv_iload_n hx hb dJ7_copyOfRangeByte_39247_5 rfl (lv_at hl 2 rfl) ?_
  refine lv_iload_n hx hb dJ7_copyOfRangeByte_39247_6 rfl (lv_at hl 1 rfl) ?_
  refine lv_isub hx hb dJ7_copyOfRangeByte_39247_7 ?_
  refine r_topi (v := 1) (by decide) ?_
  refine lv_istore_n (lv' := [(3, .int 1), (0, .ref h0), (1, .int 0), (2, .int 1)]) hx hb dJ7_copyOfRangeByte_39247_8 rfl hl (by decide) rfl (fun ls hl => ?_)
  refine lv_iload_n hx hb dJ7_copyOfRangeByte_39247_9 rfl (lv_at hl 0 rfl) ?_
  refine r_newa (atype := .byte) (cy := g 5) (a0 := (1, .inl (fun _ => 0))) hx hb (ht _ w_1297) hK.2.1.2.2.2.2.2 hP hD hS hA (fun _ => rfl) (by decide) (by decide) (by decide) (Nat.le_of_ble_eq_true rfl) (Nat.le_of_ble_eq_true rfl) dJ7_copyOfRangeByte_39247_10 (fun q_1 H hP hD hS => ?_)
  have hP : va_P D vwCl [(h0, .inl (g 5, 16, .inl fh0)), (q_1, .inl (g 5, 1, .inl (fun _ => 0)))] H := hP
  have hD : va_D (va_A [(h0, .inl (g 5, 16, .inl fh0))] s.heap.size) [(h0, .inl (g 5, 16, .inl fh0)), (q_1, .inl (g 5, 1, .inl (fun _ => 0)))] := hD
  refine lv_astore (lv' := [(4, .ref q_1), (3, .int 1), (0, .ref h0), (1, .int 0), (2, .int 1)]) hx hb dJ7_copyOfRangeByte_39247_12 hl (by decide) rfl (fun ls hl => ?_)
  refine lv_aload_n hx hb dJ7_copyOfRangeByte_39247_14 rfl (lv_at hl 2 rfl) ?_
  refine lv_iload_n hx hb dJ7_copyOfRangeByte_39247_15 rfl (lv_at hl 3 rfl) ?_
  refine lv_aload hx hb dJ7_copyOfRangeByte_39247_16 (lv_at hl 0 rfl) ?_
  refine lv_iconst (v := 0) hx hb dJ7_copyOfRangeByte_39247_18 (by decide) ?_
  refine lv_aload_n hx hb dJ7_copyOfRangeByte_39247_19 rfl (lv_at hl 2 rfl) ?_
  refine va_alen (v := 16) hx hb hK.1 hP 0 5 rfl rfl rfl dJ7_copyOfRangeByte_39247_20 ?_
  refine lv_iload_n hx hb dJ7_copyOfRangeByte_39247_21 rfl (lv_at hl 3 rfl) ?_
  refine lv_isub hx hb dJ7_copyOfRangeByte_39247_22 ?_
  refine r_topi (v := 16) (by decide) ?_
  refine lv_iload_n hx hb dJ7_copyOfRangeByte_39247_23 rfl (lv_at hl 1 rfl) ?_
  refine va_mmin hx hb (hml.trans hl.1.symm) hown (ht _ w_1378) (ht _ w_413) (ht _ w_410) (ht _ w_414) (Nat.le_of_ble_eq_true rfl) (Nat.le_of_ble_eq_true rfl) (Nat.le_of_ble_eq_true rfl) (Nat.le_of_ble_eq_true rfl) dJ7_copyOfRangeByte_39247_24 ?_
  refine r_topi (v := 1) (by decide) ?_
  refine va_copyi (ty := .byte) hx hb (hml.trans hl.1.symm) hown (ht _ w_1379) (ht _ w_1321) (ht _ w_1322) (ht _ w_1323) hK.1 hP hD hS 0 1 5 5 rfl rfl rfl rfl rfl (by decide) (by decide) (by decide) (by decide) (by decide) (fun i _ => hfh0 _) (Nat.le_of_ble_eq_true rfl) (Nat.le_of_ble_eq_true rfl) dJ7_copyOfRangeByte_39247_27 (fun H locs hP hD hS => ?_)
  have hP : va_P D vwCl [(h0, .inl (g 5, 16, .inl fh0)), (q_1, .inl (g 5, 1, .inl (va_cpy fh0 (fun _ => 0) (0 : Int32).toNatClampNeg (0 : Int32).toNatClampNeg (1 : Int32).toNatClampNeg)))] H := hP
  have hD : va_D (va_A [(h0, .inl (g 5, 16, .inl fh0))] s.heap.size) [(h0, .inl (g 5, 16, .inl fh0)), (q_1, .inl (g 5, 1, .inl (va_cpy fh0 (fun _ => 0) (0 : Int32).toNatClampNeg (0 : Int32).toNatClampNeg (1 : Int32).toNatClampNeg)))] := hD
  refine lv_aload hx hb dJ7_copyOfRangeByte_39247_30 (lv_at hl 0 rfl) ?_
  have hP9 := hP.sub (ws' := [(h0, .inl (g 5, 16, .inl fh0)), (q_1, .inl (g 5, 1, .inl (va_cpy fh0 (fun _ => 0) (0 : Int32).toNatClampNeg (0 : Int32).toNatClampNeg (1 : Int32).toNatClampNeg)))]) [0, 1] rfl
  have hD9 := hD.sub (ws' := [(h0, .inl (g 5, 16, .inl fh0)), (q_1, .inl (g 5, 1, .inl (va_cpy fh0 (fun _ => 0) (0 : Int32).toNatClampNeg (0 : Int32).toNatClampNeg (1 : Int32).toNatClampNeg)))]) [0, 1] (by decide) rfl
  refine W.widen (k := 1) (n := 1) (Nat.le_of_ble_eq_true rfl) (Nat.le_of_ble_eq_true rfl) ?_
  exact W.aret (v := .ref q_1) hx hb hr (Or.inr ⟨_, rfl⟩) (Or.inr ⟨_, rfl⟩) (fun t ht9 hW9 => ⟨⟨(), _, rfl, trivial, ⟨q_1, rfl, (by rw [ht9]; exact hP9), hD9⟩⟩, hS.F ht9⟩) hS.2.2 dJ7_copyOfRangeByte_39247_32 hlocks
set_option maxHeartbeats 4000000 in
set_option maxRecDepth 100000 in
theorem k_J7_copyOfRange_39247 (l : Launch) (D : va_G) (g : Nat → ClassId) (z0 sz : Nat) (a : Nat → Nat) (h0 : Nat) (fh0 : Nat → Int32) (hfh0 : ∀ j : Nat, fits .byte (.int (fh0 j)) = true) : Met l yJ7_copyOfRange_39247 (.code yJ7_copyOfRange_39247 cJ7_copyOfRange_39247 3 (some (.array .byte)) :: TG) (rmk 2 1 1 88) (va_Pc [.ref h0, .int 0, .int 1] (PP D g z0 sz [(h0, .inl (g 5, 16, .inl fh0))])) (va_Qr (fun (u : Unit) => True) (fun (u : Unit) (r : Nat) (t : State) => ∃ (q_3 : Nat), q_3 = r ∧ va_P D vwCl [(h0, .inl (g 5, 16, .inl fh0)), (q_3, .inl (g 5, 1, .inl (va_cpy fh0 (fun _ => 0) (0 : Int32).toNatClampNeg (0 : Int32).toNatClampNeg (1 : Int32).toNatClampNeg)))] t.heap ∧ va_D (va_A [(h0, .inl (g 5, 16, .inl fh0))] sz) [(h0, .inl (g 5, 16, .inl fh0)), (q_3, .inl (g 5, 1, .inl (va_cpy fh0 (fun _ => 0) (0 : Int32).toNatClampNeg (0 : Int32).toNatClampNeg (1 : Int32).toNatClampNeg)))]) (va_A [(h0, .inl (g 5, 16, .inl fh0))] sz)) 1 1 (va_A [(h0, .inl (g 5, 16, .inl fh0))] sz) := by
  refine met0 (cc := cJ7_copyOfRange_39247) (n := 3) (by decide) (Nat.le_of_ble_eq_true rfl) ?_
  intro p e s m args below meth c hx hb hr hml hown ht hlocks hnm hP0 hD0 hK hZ hsz hz ls hl
  subst hsz
  have hA : ∀ q : Nat, s.heap.size ≤ q → va_A [(h0, .inl (g 5, 16, .inl fh0))] s.heap.size q := Anw
  have hAz : ∀ q, va_A [(h0, .inl (g 5, 16, .inl fh0))] s.heap.size q → z0 ≤ q := Awz hz hD0
  have hS : va_S (va_A [(h0, .inl (g 5, 16, .inl fh0))] s.heap.size) s.heap s.heap [] := va_S.rf
  have hD : va_D (va_A [(h0, .inl (g 5, 16, .inl fh0))] s.heap.size) [(h0, .inl (g 5, 16, .inl fh0))] := hD0.self
  have hP : va_P D vwCl [(h0, .inl (g 5, 16, .inl fh0))] s.heap := hP0
  have hl : lv_has ls 3 [(0, .ref h0), (1, .int 0), (2, .int 1)] := hl
  refine lv_iload_n hx hb dJ7_copyOfRange_39247_0 rfl (lv_at hl 1 rfl) ?_
  refine lv_if_ne (tgt := 10) hx hb dJ7_copyOfRange_39247_1 (by decide) (fun c_1 => ?_) (fun c_1 => ?_)
  · exact absurd c_1 (by decide)
  · refine lv_iload_n hx hb dJ7_copyOfRange_39247_4 rfl (lv_at hl 2 rfl) ?_
    refine lv_aload_n hx hb dJ7_copyOfRange_39247_5 rfl (lv_at hl 0 rfl) ?_
    refine va_alen (v := 16) hx hb hK.1 hP 0 5 rfl rfl rfl dJ7_copyOfRange_39247_6 ?_
    refine lv_icmp_eq (tgt := 17) hx hb dJ7_copyOfRange_39247_7 (by decide) (fun c_2 => ?_) (fun c_2 => ?_)
    · exact absurd c_2 (by decide)
    · refine lv_aload_n hx hb dJ7_copyOfRange_39247_10 rfl (lv_at hl 0 rfl) ?_
      refine lv_iload_n hx hb dJ7_copyOfRange_39247_11 rfl (lv_at hl 1 rfl) ?_
      refine lv_iload_n hx hb dJ7_copyOfRange_39247_12 rfl (lv_at hl 2 rfl) ?_
      have hPc : va_P D vwCl [(h0, .inl (g 5, 16, .inl fh0))] _ := hP.sub (ws' := [(h0, .inl (g 5, 16, .inl fh0))]) [0] rfl
      have hDc : va_D (fun q => z0 ≤ q) [(h0, .inl (g 5, 16, .inl fh0))] := (hD.to hAz).pick (ws' := [(h0, .inl (g 5, 16, .inl fh0))]) [0] (by decide) rfl
      have hFc := va_free (wc := [(h0, .inl (g 5, 16, .inl fh0))]) hD hS hA [0] rfl
      refine va_callr (va_runS (As := [.ref h0, .int 0, .int 1]) (rest := []) ⟨hx, hb, hml, hown, ht⟩ (k_J7_copyOfRangeByte_39247 l D g z0 _ a h0 fh0 hfh0) (va_cwS 3 ht (gS w_1380 w_1382 w_8 w_1381) rfl rfl rfl (by decide +kernel) (le2 rfl rfl)) ⟨PP.blind, PP.mk' hK hZ hz hAz hS hPc hDc⟩ rfl rfl hl.1 rfl (lv_room (Nat.le_of_ble_eq_true rfl)) dJ7_copyOfRange_39247_13 (le2 rfl rfl)) hS (fun q _ h => hFc q h) hFc (fun u ra t H locs ht1 hvm hw hB hz1 hk1 hS => ?_)
      obtain ⟨q_3, hr9, hP1, hD1⟩ := hB
      rw [ht1] at hP1
      obtain ⟨hP, hD⟩ := va_join (wr := []) (w1 := [(h0, .inl (g 5, 16, .inl fh0)), (q_3, .inl (g 5, 1, .inl (va_cpy fh0 (fun _ => 0) (0 : Int32).toNatClampNeg (0 : Int32).toNatClampNeg (1 : Int32).toNatClampNeg)))]) hP hD [0] [] rfl rfl (by decide) (by decide) hk1 hFc hP1 hD1
      subst hr9
      have hP : va_P D vwCl [(h0, .inl (g 5, 16, .inl fh0)), (q_3, .inl (g 5, 1, .inl (va_cpy fh0 (fun _ => 0) (0 : Int32).toNatClampNeg (0 : Int32).toNatClampNeg (1 : Int32).toNatClampNeg)))] H := hP
      have hD : va_D (va_A [(h0, .inl (g 5, 16, .inl fh0))] s.heap.size) [(h0, .inl (g 5, 16, .inl fh0)), (q_3, .inl (g 5, 1, .inl (va_cpy fh0 (fun _ => 0) (0 : Int32).toNatClampNeg (0 : Int32).toNatClampNeg (1 : Int32).toNatClampNeg)))] := hD
      have hP9 := hP.sub (ws' := [(h0, .inl (g 5, 16, .inl fh0)), (q_3, .inl (g 5, 1, .inl (va_cpy fh0 (fun _ => 0) (0 : Int32).toNatClampNeg (0 : Int32).toNatClampNeg (1 : Int32).toNatClampNeg)))]) [0, 1] rfl
      have hD9 := hD.sub (ws' := [(h0, .inl (g 5, 16, .inl fh0)), (q_3, .inl (g 5, 1, .inl (va_cpy fh0 (fun _ => 0) (0 : Int32).toNatClampNeg (0 : Int32).toNatClampNeg (1 : Int32).toNatClampNeg)))]) [0, 1] (by decide) rfl
      refine W.widen (k := 1) (n := 1) (Nat.le_of_ble_eq_true rfl) (Nat.le_of_ble_eq_true rfl) ?_
      exact W.aret (v := .ref q_3) hx hb hr (Or.inr ⟨_, rfl⟩) (Or.inr ⟨_, rfl⟩) (fun t ht9 hW9 => ⟨⟨(), _, rfl, trivial, ⟨q_3, rfl, (by rw [ht9]; exact hP9), hD9⟩⟩, hS.F ht9⟩) hS.2.2 dJ7_copyOfRange_39247_16 hlocks
set_option maxHeartbeats 4000000 in
set_option maxRecDepth 100000 in
theorem k_J0_init_db425 (l : Launch) (D : va_G) (g : Nat → ClassId) (z0 sz : Nat) (a : Nat → Nat) (h0 : Nat) (h1 : Nat) (h2 : Nat) (fh2 : Nat → Int32) (hfh2 : ∀ j : Nat, fits .byte (.int (fh2 j)) = true) : Met l yJ0_init_db425 (.code yJ0_init_db425 cJ0_init_db425 5 none :: TG) (rmk 3 1 1 110) (va_Pc [.ref h0, .ref h1, .null] (PP D g z0 sz [(h1, .inr (1, [.ref h2, .int 0, .int 0, .int 1])), (h0, .inr (0, [.null, .int 0, .int 0, .int 0])), (h2, .inl (g 5, 16, .inl fh2))])) (va_Qv (fun (u : Unit) => True) (fun (u : Unit) (t : State) => ∃ (q_2 : Nat), va_P D vwCl [(h1, .inr (1, [.ref h2, .int 0, .int 0, .int 1])), (h0, .inr (0, [.ref q_2, .int 0, .int 0, .int 0])), (h2, .inl (g 5, 16, .inl fh2)), (q_2, .inl (g 5, 1, .inl (va_cpy fh2 (fun _ => 0) (0 : Int32).toNatClampNeg (0 : Int32).toNatClampNeg (1 : Int32).toNatClampNeg)))] t.heap ∧ va_D (va_A [(h1, .inr (1, [.ref h2, .int 0, .int 0, .int 1])), (h0, .inr (0, [.null, .int 0, .int 0, .int 0])), (h2, .inl (g 5, 16, .inl fh2))] sz) [(h1, .inr (1, [.ref h2, .int 0, .int 0, .int 1])), (h0, .inr (0, [.ref q_2, .int 0, .int 0, .int 0])), (h2, .inl (g 5, 16, .inl fh2)), (q_2, .inl (g 5, 1, .inl (va_cpy fh2 (fun _ => 0) (0 : Int32).toNatClampNeg (0 : Int32).toNatClampNeg (1 : Int32).toNatClampNeg)))]) (va_A [(h1, .inr (1, [.ref h2, .int 0, .int 0, .int 1])), (h0, .inr (0, [.null, .int 0, .int 0, .int 0])), (h2, .inl (g 5, 16, .inl fh2))] sz)) 1 1 (va_A [(h1, .inr (1, [.ref h2, .int 0, .int 0, .int 1])), (h0, .inr (0, [.null, .int 0, .int 0, .int 0])), (h2, .inl (g 5, 16, .inl fh2))] sz) := by
  refine met0 (cc := cJ0_init_db425) (n := 5) (by decide) (Nat.le_of_ble_eq_true rfl) ?_
  intro p e s m args below meth c hx hb hr hml hown ht hlocks hnm hP0 hD0 hK hZ hsz hz ls hl
  subst hsz
  have hA : ∀ q : Nat, s.heap.size ≤ q → va_A [(h1, .inr (1, [.ref h2, .int 0, .int 0, .int 1])), (h0, .inr (0, [.null, .int 0, .int 0, .int 0])), (h2, .inl (g 5, 16, .inl fh2))] s.heap.size q := Anw
  have hAz : ∀ q, va_A [(h1, .inr (1, [.ref h2, .int 0, .int 0, .int 1])), (h0, .inr (0, [.null, .int 0, .int 0, .int 0])), (h2, .inl (g 5, 16, .inl fh2))] s.heap.size q → z0 ≤ q := Awz hz hD0
  have hS : va_S (va_A [(h1, .inr (1, [.ref h2, .int 0, .int 0, .int 1])), (h0, .inr (0, [.null, .int 0, .int 0, .int 0])), (h2, .inl (g 5, 16, .inl fh2))] s.heap.size) s.heap s.heap [] := va_S.rf
  have hD : va_D (va_A [(h1, .inr (1, [.ref h2, .int 0, .int 0, .int 1])), (h0, .inr (0, [.null, .int 0, .int 0, .int 0])), (h2, .inl (g 5, 16, .inl fh2))] s.heap.size) [(h1, .inr (1, [.ref h2, .int 0, .int 0, .int 1])), (h0, .inr (0, [.null, .int 0, .int 0, .int 0])), (h2, .inl (g 5, 16, .inl fh2))] := hD0.self
  have hP : va_P D vwCl [(h1, .inr (1, [.ref h2, .int 0, .int 0, .int 1])), (h0, .inr (0, [.null, .int 0, .int 0, .int 0])), (h2, .inl (g 5, 16, .inl fh2))] s.heap := hP0
  have hl : lv_has ls 5 [(0, .ref h0), (1, .ref h1), (2, .null)] := hl
  refine lv_aload_n hx hb dJ0_init_db425_0 rfl (lv_at hl 0 rfl) ?_
  refine W.objInit hx hb hown (ht _ w_1360) (ht _ w_311) (ht _ w_309) rfl (by rw [hml]; exact hl.1) rfl dJ0_init_db425_1 (Nat.le_of_ble_eq_true rfl) (Nat.le_of_ble_eq_true rfl) ?_
  refine W.eq (g2 := F0 m 4 ls []) rfl ?_
  refine lv_aload_n hx hb dJ0_init_db425_4 rfl (lv_at hl 1 rfl) ?_
  have hPc : va_P D vwCl [(h1, .inr (1, [.ref h2, .int 0, .int 0, .int 1]))] _ := hP.sub (ws' := [(h1, .inr (1, [.ref h2, .int 0, .int 0, .int 1]))]) [0] rfl
  have hDc : va_D (fun q => z0 ≤ q) [(h1, .inr (1, [.ref h2, .int 0, .int 0, .int 1]))] := (hD.to hAz).pick (ws' := [(h1, .inr (1, [.ref h2, .int 0, .int 0, .int 1]))]) [0] (by decide) rfl
  have hFc := AnA (ws := [(h1, .inr (1, [.ref h2, .int 0, .int 0, .int 1])), (h0, .inr (0, [.null, .int 0, .int 0, .int 0])), (h2, .inl (g 5, 16, .inl fh2))]) hS.1
  refine va_callr (va_runU (As := []) (rest := []) ⟨hx, hb, hml, hown, ht⟩ (k_J5_getValue_6d5f1 l D g z0 _ a h1 h2 fh2 hfh2) (va_cwU (owner := "java/lang/AbstractStringBuilder") 0 ht (gU w_1361 w_1363 w_1364 w_1365 w_1302 w_1362) rfl rfl rfl rfl (by decide +kernel) (le2 rfl rfl)) ⟨PP.blind, va_recv hK.1 hP (ci := 1) (q0 := 0) rfl rfl, PP.mk' hK hZ hz hAz hS hPc hDc⟩ rfl rfl hl.1 rfl (lv_room (Nat.le_of_ble_eq_true rfl)) dJ0_init_db425_5 (le2 rfl rfl)) hS (fun q _ h => hFc q h) hFc (fun u ra t H locs ht1 hvm hw hB hz1 hk1 hS => ?_)
  have hP := ro1 hP hk1
  subst hB
  refine lv_astore_n (lv' := [(3, .ref h2), (0, .ref h0), (1, .ref h1), (2, .null)]) hx hb dJ0_init_db425_8 rfl hl (by decide) rfl (fun ls hl => ?_)
  refine lv_aload_n hx hb dJ0_init_db425_9 rfl (lv_at hl 2 rfl) ?_
  have hPc : va_P D vwCl [(h1, .inr (1, [.ref h2, .int 0, .int 0, .int 1]))] _ := hP.sub (ws' := [(h1, .inr (1, [.ref h2, .int 0, .int 0, .int 1]))]) [0] rfl
  have hDc : va_D (fun q => z0 ≤ q) [(h1, .inr (1, [.ref h2, .int 0, .int 0, .int 1]))] := (hD.to hAz).pick (ws' := [(h1, .inr (1, [.ref h2, .int 0, .int 0, .int 1]))]) [0] (by decide) rfl
  have hFc := AnA (ws := [(h1, .inr (1, [.ref h2, .int 0, .int 0, .int 1])), (h0, .inr (0, [.null, .int 0, .int 0, .int 0])), (h2, .inl (g 5, 16, .inl fh2))]) hS.1
  refine va_calli (va_runU (As := []) (rest := []) ⟨hx, hb, hml, hown, ht⟩ (k_J4_length_8abf5 l D g z0 _ a h1 h2 fh2 hfh2) (va_cwO (owner := "java/lang/AbstractStringBuilder") 0 ht (gO w_1370 w_1368 w_1369 w_1372 w_1373 w_1294 w_1371) rfl rfl rfl w_1367 (by decide +kernel) (le2 rfl rfl)) ⟨PP.blind, va_recv hK.1 hP (ci := 1) (q0 := 0) rfl rfl, PP.mk' hK hZ hz hAz hS hPc hDc⟩ rfl rfl hl.1 rfl (lv_room (Nat.le_of_ble_eq_true rfl)) dJ0_init_db425_10 (le2 rfl rfl)) hS (fun q _ h => hFc q h) hFc (fun r u t H locs ht1 hvm hw hB hz1 hk1 hS => ?_)
  obtain ⟨rfl, hw⟩ := hw
  have hP := ro1 hP hk1
  refine lv_istore (lv' := [(4, .int 1), (3, .ref h2), (0, .ref h0), (1, .ref h1), (2, .null)]) hx hb dJ0_init_db425_13 hl (by decide) rfl (fun ls hl => ?_)
  refine lv_aload_n hx hb dJ0_init_db425_15 rfl (lv_at hl 3 rfl) ?_
  have hPc : va_P D vwCl [(h1, .inr (1, [.ref h2, .int 0, .int 0, .int 1]))] _ := hP.sub (ws' := [(h1, .inr (1, [.ref h2, .int 0, .int 0, .int 1]))]) [0] rfl
  have hDc : va_D (fun q => z0 ≤ q) [(h1, .inr (1, [.ref h2, .int 0, .int 0, .int 1]))] := (hD.to hAz).pick (ws' := [(h1, .inr (1, [.ref h2, .int 0, .int 0, .int 1]))]) [0] (by decide) rfl
  have hFc := AnA (ws := [(h1, .inr (1, [.ref h2, .int 0, .int 0, .int 1])), (h0, .inr (0, [.null, .int 0, .int 0, .int 0])), (h2, .inl (g 5, 16, .inl fh2))]) hS.1
  refine va_calli (va_runU (As := []) (rest := []) ⟨hx, hb, hml, hown, ht⟩ (k_J5_isLatin1_aae02_v1 l D g z0 _ a h1 h2 fh2 hfh2) (va_cwU (owner := "java/lang/AbstractStringBuilder") 0 ht (gU w_1374 w_1344 w_1345 w_1346 w_1302 w_1343) rfl rfl rfl rfl (by decide +kernel) (le2 rfl rfl)) ⟨PP.blind, va_recv hK.1 hP (ci := 1) (q0 := 0) rfl rfl, PP.mk' hK hZ hz hAz hS hPc hDc⟩ rfl rfl hl.1 rfl (lv_room (Nat.le_of_ble_eq_true rfl)) dJ0_init_db425_16 (le2 rfl rfl)) hS (fun q _ h => hFc q h) hFc (fun r u t H locs ht1 hvm hw hB hz1 hk1 hS => ?_)
  obtain ⟨rfl, hw⟩ := hw
  have hP := ro1 hP hk1
  refine lv_if_eq (tgt := 41) hx hb dJ0_init_db425_19 (by decide) (fun c_1 => ?_) (fun c_1 => ?_)
  · exact absurd c_1 (by decide)
  · refine lv_aload_n hx hb dJ0_init_db425_22 rfl (lv_at hl 2 rfl) ?_
    refine lv_iconst (v := 0) hx hb dJ0_init_db425_23 (by decide) ?_
    refine va_putF (D := D) (ci := 0) (v := .int 0) (ty := .byte) (C := RJ0) (T := TJ0) (N := 4) hx hb ht in_J0 tyJ0 tyJ0_ok nmJ0 hown hK.1 hP hD hS 1 rfl rfl 1 (by decide) (ht _ w_389) (fun _ h9 => h9) rfl hnm rfl (by decide +kernel) rfl rfl (Nat.le_of_ble_eq_true rfl) dJ0_init_db425_24 (fun H locs hP hD hS => ?_)
    have hP : va_P D vwCl [(h1, .inr (1, [.ref h2, .int 0, .int 0, .int 1])), (h0, .inr (0, [.null, .int 0, .int 0, .int 0])), (h2, .inl (g 5, 16, .inl fh2))] H := hP
    have hD : va_D (va_A [(h1, .inr (1, [.ref h2, .int 0, .int 0, .int 1])), (h0, .inr (0, [.null, .int 0, .int 0, .int 0])), (h2, .inl (g 5, 16, .inl fh2))] s.heap.size) [(h1, .inr (1, [.ref h2, .int 0, .int 0, .int 1])), (h0, .inr (0, [.null, .int 0, .int 0, .int 0])), (h2, .inl (g 5, 16, .inl fh2))] := hD
    refine lv_aload_n hx hb dJ0_init_db425_27 rfl (lv_at hl 2 rfl) ?_
    refine lv_aload_n hx hb dJ0_init_db425_28 rfl (lv_at hl 1 rfl) ?_
    refine lv_iconst (v := 0) hx hb dJ0_init_db425_29 (by decide) ?_
    refine lv_iload hx hb dJ0_init_db425_30 (lv_at hl 0 rfl) ?_
    have hPc : va_P D vwCl [(h2, .inl (g 5, 16, .inl fh2))] _ := hP.sub (ws' := [(h2, .inl (g 5, 16, .inl fh2))]) [2] rfl
    have hDc : va_D (fun q => z0 ≤ q) [(h2, .inl (g 5, 16, .inl fh2))] := (hD.to hAz).pick (ws' := [(h2, .inl (g 5, 16, .inl fh2))]) [2] (by decide) rfl
    have hFc := va_free (wc := [(h2, .inl (g 5, 16, .inl fh2))]) hD hS hA [2] rfl
    refine va_callr (va_runS (As := [.ref h2, .int 0, .int 1]) (rest := [.ref h0]) ⟨hx, hb, hml, hown, ht⟩ (k_J7_copyOfRange_39247 l D g z0 _ a h2 fh2 hfh2) (va_cwS 3 ht (gS w_1383 w_1385 w_8 w_1384) rfl rfl rfl (by decide +kernel) (le2 rfl rfl)) ⟨PP.blind, PP.mk' hK hZ hz hAz hS hPc hDc⟩ rfl rfl hl.1 rfl (lv_room (Nat.le_of_ble_eq_true rfl)) dJ0_init_db425_32 (le2 rfl rfl)) hS (fun q _ h => hFc q h) hFc (fun u ra t H locs ht1 hvm hw hB hz1 hk1 hS => ?_)
    obtain ⟨q_2, hr9, hP1, hD1⟩ := hB
    rw [ht1] at hP1
    obtain ⟨hP, hD⟩ := va_join (wr := [(h1, .inr (1, [.ref h2, .int 0, .int 0, .int 1])), (h0, .inr (0, [.null, .int 0, .int 0, .int 0]))]) (w1 := [(h2, .inl (g 5, 16, .inl fh2)), (q_2, .inl (g 5, 1, .inl (va_cpy fh2 (fun _ => 0) (0 : Int32).toNatClampNeg (0 : Int32).toNatClampNeg (1 : Int32).toNatClampNeg)))]) hP hD [2] [0, 1] rfl rfl (by decide) (by decide) hk1 hFc hP1 hD1
    subst hr9
    have hP : va_P D vwCl [(h1, .inr (1, [.ref h2, .int 0, .int 0, .int 1])), (h0, .inr (0, [.null, .int 0, .int 0, .int 0])), (h2, .inl (g 5, 16, .inl fh2)), (q_2, .inl (g 5, 1, .inl (va_cpy fh2 (fun _ => 0) (0 : Int32).toNatClampNeg (0 : Int32).toNatClampNeg (1 : Int32).toNatClampNeg)))] H := hP
    have hD : va_D (va_A [(h1, .inr (1, [.ref h2, .int 0, .int 0, .int 1])), (h0, .inr (0, [.null, .int 0, .int 0, .int 0])), (h2, .inl (g 5, 16, .inl fh2))] s.heap.size) [(h1, .inr (1, [.ref h2, .int 0, .int 0, .int 1])), (h0, .inr (0, [.null, .int 0, .int 0, .int 0])), (h2, .inl (g 5, 16, .inl fh2)), (q_2, .inl (g 5, 1, .inl (va_cpy fh2 (fun _ => 0) (0 : Int32).toNatClampNeg (0 : Int32).toNatClampNeg (1 : Int32).toNatClampNeg)))] := hD
    refine va_putF (D := D) (ci := 0) (v := .ref q_2) (ty := .array .byte) (C := RJ0) (T := TJ0) (N := 4) hx hb ht in_J0 tyJ0 tyJ0_ok nmJ0 hown hK.1 hP hD hS 1 rfl rfl 0 (by decide) (ht _ w_395) (fun _ h9 => h9) rfl hnm rfl (by decide +kernel) rfl rfl (Nat.le_of_ble_eq_true rfl) dJ0_init_db425_35 (fun H locs hP hD hS => ?_)
    have hP : va_P D vwCl [(h1, .inr (1, [.ref h2, .int 0, .int 0, .int 1])), (h0, .inr (0, [.ref q_2, .int 0, .int 0, .int 0])), (h2, .inl (g 5, 16, .inl fh2)), (q_2, .inl (g 5, 1, .inl (va_cpy fh2 (fun _ => 0) (0 : Int32).toNatClampNeg (0 : Int32).toNatClampNeg (1 : Int32).toNatClampNeg)))] H := hP
    have hD : va_D (va_A [(h1, .inr (1, [.ref h2, .int 0, .int 0, .int 1])), (h0, .inr (0, [.null, .int 0, .int 0, .int 0])), (h2, .inl (g 5, 16, .inl fh2))] s.heap.size) [(h1, .inr (1, [.ref h2, .int 0, .int 0, .int 1])), (h0, .inr (0, [.ref q_2, .int 0, .int 0, .int 0])), (h2, .inl (g 5, 16, .inl fh2)), (q_2, .inl (g 5, 1, .inl (va_cpy fh2 (fun _ => 0) (0 : Int32).toNatClampNeg (0 : Int32).toNatClampNeg (1 : Int32).toNatClampNeg)))] := hD
    refine lv_goto (tgt := 97) hx hb dJ0_init_db425_38 (by decide) ?_
    have hP9 := hP.sub (ws' := [(h1, .inr (1, [.ref h2, .int 0, .int 0, .int 1])), (h0, .inr (0, [.ref q_2, .int 0, .int 0, .int 0])), (h2, .inl (g 5, 16, .inl fh2)), (q_2, .inl (g 5, 1, .inl (va_cpy fh2 (fun _ => 0) (0 : Int32).toNatClampNeg (0 : Int32).toNatClampNeg (1 : Int32).toNatClampNeg)))]) [0, 1, 2, 3] rfl
    have hD9 := hD.sub (ws' := [(h1, .inr (1, [.ref h2, .int 0, .int 0, .int 1])), (h0, .inr (0, [.ref q_2, .int 0, .int 0, .int 0])), (h2, .inl (g 5, 16, .inl fh2)), (q_2, .inl (g 5, 1, .inl (va_cpy fh2 (fun _ => 0) (0 : Int32).toNatClampNeg (0 : Int32).toNatClampNeg (1 : Int32).toNatClampNeg)))]) [0, 1, 2, 3] (by decide) rfl
    refine W.widen (k := 1) (n := 1) (Nat.le_of_ble_eq_true rfl) (Nat.le_of_ble_eq_true rfl) ?_
    exact W.vret hx hb hr (fun t ht9 hW9 => ⟨⟨(), rfl, trivial, ⟨q_2, (by rw [ht9]; exact hP9), hD9⟩⟩, hS.F ht9⟩) hS.2.2 dJ0_init_db425_97 hlocks
set_option maxHeartbeats 4000000 in
set_option maxRecDepth 100000 in
theorem k_J0_init_81219 (l : Launch) (D : va_G) (g : Nat → ClassId) (z0 sz : Nat) (a : Nat → Nat) (h0 : Nat) (h1 : Nat) (h2 : Nat) (fh2 : Nat → Int32) (hfh2 : ∀ j : Nat, fits .byte (.int (fh2 j)) = true) : Met l yJ0_init_81219 (.code yJ0_init_81219 cJ0_init_81219 2 none :: TG) (rmk 4 1 1 134) (va_Pc [.ref h0, .ref h1] (PP D g z0 sz [(h1, .inr (1, [.ref h2, .int 0, .int 0, .int 1])), (h0, .inr (0, [.null, .int 0, .int 0, .int 0])), (h2, .inl (g 5, 16, .inl fh2))])) (va_Qv (fun (u : Unit) => True) (fun (u : Unit) (t : State) => ∃ (q_1 : Nat), va_P D vwCl [(h1, .inr (1, [.ref h2, .int 0, .int 0, .int 1])), (h0, .inr (0, [.ref q_1, .int 0, .int 0, .int 0])), (h2, .inl (g 5, 16, .inl fh2)), (q_1, .inl (g 5, 1, .inl (va_cpy fh2 (fun _ => 0) (0 : Int32).toNatClampNeg (0 : Int32).toNatClampNeg (1 : Int32).toNatClampNeg)))] t.heap ∧ va_D (va_A [(h1, .inr (1, [.ref h2, .int 0, .int 0, .int 1])), (h0, .inr (0, [.null, .int 0, .int 0, .int 0])), (h2, .inl (g 5, 16, .inl fh2))] sz) [(h1, .inr (1, [.ref h2, .int 0, .int 0, .int 1])), (h0, .inr (0, [.ref q_1, .int 0, .int 0, .int 0])), (h2, .inl (g 5, 16, .inl fh2)), (q_1, .inl (g 5, 1, .inl (va_cpy fh2 (fun _ => 0) (0 : Int32).toNatClampNeg (0 : Int32).toNatClampNeg (1 : Int32).toNatClampNeg)))]) (va_A [(h1, .inr (1, [.ref h2, .int 0, .int 0, .int 1])), (h0, .inr (0, [.null, .int 0, .int 0, .int 0])), (h2, .inl (g 5, 16, .inl fh2))] sz)) 1 1 (va_A [(h1, .inr (1, [.ref h2, .int 0, .int 0, .int 1])), (h0, .inr (0, [.null, .int 0, .int 0, .int 0])), (h2, .inl (g 5, 16, .inl fh2))] sz) := by
  refine met0 (cc := cJ0_init_81219) (n := 2) (by decide) (Nat.le_of_ble_eq_true rfl) ?_
  intro p e s m args below meth c hx hb hr hml hown ht hlocks hnm hP0 hD0 hK hZ hsz hz ls hl
  subst hsz
  have hA : ∀ q : Nat, s.heap.size ≤ q → va_A [(h1, .inr (1, [.ref h2, .int 0, .int 0, .int 1])), (h0, .inr (0, [.null, .int 0, .int 0, .int 0])), (h2, .inl (g 5, 16, .inl fh2))] s.heap.size q := Anw
  have hAz : ∀ q, va_A [(h1, .inr (1, [.ref h2, .int 0, .int 0, .int 1])), (h0, .inr (0, [.null, .int 0, .int 0, .int 0])), (h2, .inl (g 5, 16, .inl fh2))] s.heap.size q → z0 ≤ q := Awz hz hD0
  have hS : va_S (va_A [(h1, .inr (1, [.ref h2, .int 0, .int 0, .int 1])), (h0, .inr (0, [.null, .int 0, .int 0, .int 0])), (h2, .inl (g 5, 16, .inl fh2))] s.heap.size) s.heap s.heap [] := va_S.rf
  have hD : va_D (va_A [(h1, .inr (1, [.ref h2, .int 0, .int 0, .int 1])), (h0, .inr (0, [.null, .int 0, .int 0, .int 0])), (h2, .inl (g 5, 16, .inl fh2))] s.heap.size) [(h1, .inr (1, [.ref h2, .int 0, .int 0, .int 1])), (h0, .inr (0, [.null, .int 0, .int 0, .int 0])), (h2, .inl (g 5, 16, .inl fh2))] := hD0.self
  have hP : va_P D vwCl [(h1, .inr (1, [.ref h2, .int 0, .int 0, .int 1])), (h0, .inr (0, [.null, .int 0, .int 0, .int 0])), (h2, .inl (g 5, 16, .inl fh2))] s.heap := hP0
  have hl : lv_has ls 2 [(0, .ref h0), (1, .ref h1)] := hl
  refine lv_aload_n hx hb dJ0_init_81219_0 rfl (lv_at hl 0 rfl) ?_
  refine lv_aload_n hx hb dJ0_init_81219_1 rfl (lv_at hl 1 rfl) ?_
  refine lv_null hx hb dJ0_init_81219_2 ?_
  have hPc : va_P D vwCl [(h1, .inr (1, [.ref h2, .int 0, .int 0, .int 1])), (h0, .inr (0, [.null, .int 0, .int 0, .int 0])), (h2, .inl (g 5, 16, .inl fh2))] _ := hP.sub (ws' := [(h1, .inr (1, [.ref h2, .int 0, .int 0, .int 1])), (h0, .inr (0, [.null, .int 0, .int 0, .int 0])), (h2, .inl (g 5, 16, .inl fh2))]) [0, 1, 2] rfl
  have hDc : va_D (fun q => z0 ≤ q) [(h1, .inr (1, [.ref h2, .int 0, .int 0, .int 1])), (h0, .inr (0, [.null, .int 0, .int 0, .int 0])), (h2, .inl (g 5, 16, .inl fh2))] := (hD.to hAz).pick (ws' := [(h1, .inr (1, [.ref h2, .int 0, .int 0, .int 1])), (h0, .inr (0, [.null, .int 0, .int 0, .int 0])), (h2, .inl (g 5, 16, .inl fh2))]) [0, 1, 2] (by decide) rfl
  have hFc := va_free (wc := [(h1, .inr (1, [.ref h2, .int 0, .int 0, .int 1])), (h0, .inr (0, [.null, .int 0, .int 0, .int 0])), (h2, .inl (g 5, 16, .inl fh2))]) hD hS hA [0, 1, 2] rfl
  refine va_callv (va_runI (As := [.ref h1, .null]) (rest := []) ⟨hx, hb, hml, hown, ht⟩ (k_J0_init_db425 l D g z0 _ a h0 h1 h2 fh2 hfh2) (cwI 2 ht (gI w_1387) rfl rfl rfl (ht _ w_394) (ht _ w_1386) (ht _ w_1388) rfl (by decide +kernel) (le2 rfl rfl)) ⟨PP.blind, PP.mk' hK hZ hz hAz hS hPc hDc⟩ rfl rfl hl.1 rfl (lv_room (Nat.le_of_ble_eq_true rfl)) dJ0_init_81219_3 (le2 rfl rfl)) hS (fun q _ h => hFc q h) hFc (fun u t H locs ht1 hvm hw hB hz1 hk1 hS => ?_)
  obtain ⟨q_1, hP1, hD1⟩ := hB
  rw [ht1] at hP1
  obtain ⟨hP, hD⟩ := va_join (wr := []) (w1 := [(h1, .inr (1, [.ref h2, .int 0, .int 0, .int 1])), (h0, .inr (0, [.ref q_1, .int 0, .int 0, .int 0])), (h2, .inl (g 5, 16, .inl fh2)), (q_1, .inl (g 5, 1, .inl (va_cpy fh2 (fun _ => 0) (0 : Int32).toNatClampNeg (0 : Int32).toNatClampNeg (1 : Int32).toNatClampNeg)))]) hP hD [0, 1, 2] [] rfl rfl (by decide) (by decide) hk1 hFc hP1 hD1
  have hP : va_P D vwCl [(h1, .inr (1, [.ref h2, .int 0, .int 0, .int 1])), (h0, .inr (0, [.ref q_1, .int 0, .int 0, .int 0])), (h2, .inl (g 5, 16, .inl fh2)), (q_1, .inl (g 5, 1, .inl (va_cpy fh2 (fun _ => 0) (0 : Int32).toNatClampNeg (0 : Int32).toNatClampNeg (1 : Int32).toNatClampNeg)))] H := hP
  have hD : va_D (va_A [(h1, .inr (1, [.ref h2, .int 0, .int 0, .int 1])), (h0, .inr (0, [.null, .int 0, .int 0, .int 0])), (h2, .inl (g 5, 16, .inl fh2))] s.heap.size) [(h1, .inr (1, [.ref h2, .int 0, .int 0, .int 1])), (h0, .inr (0, [.ref q_1, .int 0, .int 0, .int 0])), (h2, .inl (g 5, 16, .inl fh2)), (q_1, .inl (g 5, 1, .inl (va_cpy fh2 (fun _ => 0) (0 : Int32).toNatClampNeg (0 : Int32).toNatClampNeg (1 : Int32).toNatClampNeg)))] := hD
  have hP9 := hP.sub (ws' := [(h1, .inr (1, [.ref h2, .int 0, .int 0, .int 1])), (h0, .inr (0, [.ref q_1, .int 0, .int 0, .int 0])), (h2, .inl (g 5, 16, .inl fh2)), (q_1, .inl (g 5, 1, .inl (va_cpy fh2 (fun _ => 0) (0 : Int32).toNatClampNeg (0 : Int32).toNatClampNeg (1 : Int32).toNatClampNeg)))]) [0, 1, 2, 3] rfl
  have hD9 := hD.sub (ws' := [(h1, .inr (1, [.ref h2, .int 0, .int 0, .int 1])), (h0, .inr (0, [.ref q_1, .int 0, .int 0, .int 0])), (h2, .inl (g 5, 16, .inl fh2)), (q_1, .inl (g 5, 1, .inl (va_cpy fh2 (fun _ => 0) (0 : Int32).toNatClampNeg (0 : Int32).toNatClampNeg (1 : Int32).toNatClampNeg)))]) [0, 1, 2, 3] (by decide) rfl
  refine W.widen (k := 1) (n := 1) (Nat.le_of_ble_eq_true rfl) (Nat.le_of_ble_eq_true rfl) ?_
  exact W.vret hx hb hr (fun t ht9 hW9 => ⟨⟨(), rfl, trivial, ⟨q_1, (by rw [ht9]; exact hP9), hD9⟩⟩, hS.F ht9⟩) hS.2.2 dJ0_init_81219_6 hlocks
set_option maxHeartbeats 4000000 in
set_option maxRecDepth 100000 in
theorem k_J4_toString_0e30d (l : Launch) (D : va_G) (g : Nat → ClassId) (z0 sz : Nat) (a : Nat → Nat) (h0 : Nat) (h1 : Nat) (fh1 : Nat → Int32) (hfh1 : ∀ j : Nat, fits .byte (.int (fh1 j)) = true) : Met l yJ4_toString_0e30d (.code yJ4_toString_0e30d cJ4_toString_0e30d 1 (some (.object "java/lang/String")) :: TG) (rmk 5 2 5 155) (va_Pc [.ref h0] (PP D g z0 sz [(h0, .inr (1, [.ref h1, .int 0, .int 0, .int 1])), (h1, .inl (g 5, 16, .inl fh1))])) (va_Qr (fun (u : Unit) => True) (fun (u : Unit) (r : Nat) (t : State) => ∃ (q_1 : Nat) (q_2 : Nat), q_1 = r ∧ va_P D vwCl [(h0, .inr (1, [.ref h1, .int 0, .int 0, .int 1])), (q_1, .inr (0, [.ref q_2, .int 0, .int 0, .int 0])), (h1, .inl (g 5, 16, .inl fh1)), (q_2, .inl (g 5, 1, .inl (va_cpy fh1 (fun _ => 0) (0 : Int32).toNatClampNeg (0 : Int32).toNatClampNeg (1 : Int32).toNatClampNeg)))] t.heap ∧ va_D (va_A [(h0, .inr (1, [.ref h1, .int 0, .int 0, .int 1])), (h1, .inl (g 5, 16, .inl fh1))] sz) [(h0, .inr (1, [.ref h1, .int 0, .int 0, .int 1])), (q_1, .inr (0, [.ref q_2, .int 0, .int 0, .int 0])), (h1, .inl (g 5, 16, .inl fh1)), (q_2, .inl (g 5, 1, .inl (va_cpy fh1 (fun _ => 0) (0 : Int32).toNatClampNeg (0 : Int32).toNatClampNeg (1 : Int32).toNatClampNeg)))]) (va_A [(h0, .inr (1, [.ref h1, .int 0, .int 0, .int 1])), (h1, .inl (g 5, 16, .inl fh1))] sz)) 2 5 (va_A [(h0, .inr (1, [.ref h1, .int 0, .int 0, .int 1])), (h1, .inl (g 5, 16, .inl fh1))] sz) := by
  refine met0 (cc := cJ4_toString_0e30d) (n := 1) (by decide) (Nat.le_of_ble_eq_true rfl) ?_
  intro p e s m args below meth c hx hb hr hml hown ht hlocks hnm hP0 hD0 hK hZ hsz hz ls hl
  subst hsz
  have hA : ∀ q : Nat, s.heap.size ≤ q → va_A [(h0, .inr (1, [.ref h1, .int 0, .int 0, .int 1])), (h1, .inl (g 5, 16, .inl fh1))] s.heap.size q := Anw
  have hAz : ∀ q, va_A [(h0, .inr (1, [.ref h1, .int 0, .int 0, .int 1])), (h1, .inl (g 5, 16, .inl fh1))] s.heap.size q → z0 ≤ q := Awz hz hD0
  have hS : va_S (va_A [(h0, .inr (1, [.ref h1, .int 0, .int 0, .int 1])), (h1, .inl (g 5, 16, .inl fh1))] s.heap.size) s.heap s.heap [] := va_S.rf
  have hD : va_D (va_A [(h0, .inr (1, [.ref h1, .int 0, .int 0, .int 1])), (h1, .inl (g 5, 16, .inl fh1))] s.heap.size) [(h0, .inr (1, [.ref h1, .int 0, .int 0, .int 1])), (h1, .inl (g 5, 16, .inl fh1))] := hD0.self
  have hP : va_P D vwCl [(h0, .inr (1, [.ref h1, .int 0, .int 0, .int 1])), (h1, .inl (g 5, 16, .inl fh1))] s.heap := hP0
  have hl : lv_has ls 1 [(0, .ref h0)] := hl
  refine va_new (ci := 0) (fs := [.null, .int 0, .int 0, .int 0]) (C := RJ0) (T := TJ0) (N := 4) hx hb ht in_J0 tyJ0 tyJ0_ok hown (ht _ w_1358) (ht _ w_1359) (ht _ w_394) hK.1 hP hD hS hA rfl (fun j hj => by rcases (show j = 0 ∨ j = 1 ∨ j = 2 ∨ j = 3 by omega) with rfl | rfl | rfl | rfl <;> rfl) (Nat.le_of_ble_eq_true rfl) (Nat.le_of_ble_eq_true rfl) dJ4_toString_0e30d_0 (fun q_1 H hP hD hS => ?_)
  have hP : va_P D vwCl [(h0, .inr (1, [.ref h1, .int 0, .int 0, .int 1])), (h1, .inl (g 5, 16, .inl fh1)), (q_1, .inr (0, [.null, .int 0, .int 0, .int 0]))] H := hP
  have hD : va_D (va_A [(h0, .inr (1, [.ref h1, .int 0, .int 0, .int 1])), (h1, .inl (g 5, 16, .inl fh1))] s.heap.size) [(h0, .inr (1, [.ref h1, .int 0, .int 0, .int 1])), (h1, .inl (g 5, 16, .inl fh1)), (q_1, .inr (0, [.null, .int 0, .int 0, .int 0]))] := hD
  refine lv_dup hx hb dJ4_toString_0e30d_3 rfl ?_
  refine lv_aload_n hx hb dJ4_toString_0e30d_4 rfl (lv_at hl 0 rfl) ?_
  have hPc : va_P D vwCl [(h0, .inr (1, [.ref h1, .int 0, .int 0, .int 1])), (q_1, .inr (0, [.null, .int 0, .int 0, .int 0])), (h1, .inl (g 5, 16, .inl fh1))] _ := hP.sub (ws' := [(h0, .inr (1, [.ref h1, .int 0, .int 0, .int 1])), (q_1, .inr (0, [.null, .int 0, .int 0, .int 0])), (h1, .inl (g 5, 16, .inl fh1))]) [0, 2, 1] rfl
  have hDc : va_D (fun q => z0 ≤ q) [(h0, .inr (1, [.ref h1, .int 0, .int 0, .int 1])), (q_1, .inr (0, [.null, .int 0, .int 0, .int 0])), (h1, .inl (g 5, 16, .inl fh1))] := (hD.to hAz).pick (ws' := [(h0, .inr (1, [.ref h1, .int 0, .int 0, .int 1])), (q_1, .inr (0, [.null, .int 0, .int 0, .int 0])), (h1, .inl (g 5, 16, .inl fh1))]) [0, 2, 1] (by decide) rfl
  have hFc := va_free (wc := [(h0, .inr (1, [.ref h1, .int 0, .int 0, .int 1])), (q_1, .inr (0, [.null, .int 0, .int 0, .int 0])), (h1, .inl (g 5, 16, .inl fh1))]) hD hS hA [0, 2, 1] rfl
  refine va_callv (va_runI (As := [.ref h0]) (rest := [.ref q_1]) ⟨hx, hb, hml, hown, ht⟩ (k_J0_init_81219 l D g z0 _ a q_1 h0 h1 fh1 hfh1) (cwI 1 ht (gI w_1390) rfl rfl rfl (ht _ w_394) (ht _ w_1389) (ht _ w_1391) rfl (by decide +kernel) (le2 rfl rfl)) ⟨PP.blind, PP.mk' hK hZ hz hAz hS hPc hDc⟩ rfl rfl hl.1 rfl (lv_room (Nat.le_of_ble_eq_true rfl)) dJ4_toString_0e30d_5 (le2 rfl rfl)) hS (fun q _ h => hFc q h) hFc (fun u t H locs ht1 hvm hw hB hz1 hk1 hS => ?_)
  obtain ⟨q_2, hP1, hD1⟩ := hB
  rw [ht1] at hP1
  obtain ⟨hP, hD⟩ := va_join (wr := []) (w1 := [(h0, .inr (1, [.ref h1, .int 0, .int 0, .int 1])), (q_1, .inr (0, [.ref q_2, .int 0, .int 0, .int 0])), (h1, .inl (g 5, 16, .inl fh1)), (q_2, .inl (g 5, 1, .inl (va_cpy fh1 (fun _ => 0) (0 : Int32).toNatClampNeg (0 : Int32).toNatClampNeg (1 : Int32).toNatClampNeg)))]) hP hD [0, 2, 1] [] rfl rfl (by decide) (by decide) hk1 hFc hP1 hD1
  have hP : va_P D vwCl [(h0, .inr (1, [.ref h1, .int 0, .int 0, .int 1])), (q_1, .inr (0, [.ref q_2, .int 0, .int 0, .int 0])), (h1, .inl (g 5, 16, .inl fh1)), (q_2, .inl (g 5, 1, .inl (va_cpy fh1 (fun _ => 0) (0 : Int32).toNatClampNeg (0 : Int32).toNatClampNeg (1 : Int32).toNatClampNeg)))] H := hP
  have hD : va_D (va_A [(h0, .inr (1, [.ref h1, .int 0, .int 0, .int 1])), (h1, .inl (g 5, 16, .inl fh1))] s.heap.size) [(h0, .inr (1, [.ref h1, .int 0, .int 0, .int 1])), (q_1, .inr (0, [.ref q_2, .int 0, .int 0, .int 0])), (h1, .inl (g 5, 16, .inl fh1)), (q_2, .inl (g 5, 1, .inl (va_cpy fh1 (fun _ => 0) (0 : Int32).toNatClampNeg (0 : Int32).toNatClampNeg (1 : Int32).toNatClampNeg)))] := hD
  have hP9 := hP.sub (ws' := [(h0, .inr (1, [.ref h1, .int 0, .int 0, .int 1])), (q_1, .inr (0, [.ref q_2, .int 0, .int 0, .int 0])), (h1, .inl (g 5, 16, .inl fh1)), (q_2, .inl (g 5, 1, .inl (va_cpy fh1 (fun _ => 0) (0 : Int32).toNatClampNeg (0 : Int32).toNatClampNeg (1 : Int32).toNatClampNeg)))]) [0, 1, 2, 3] rfl
  have hD9 := hD.sub (ws' := [(h0, .inr (1, [.ref h1, .int 0, .int 0, .int 1])), (q_1, .inr (0, [.ref q_2, .int 0, .int 0, .int 0])), (h1, .inl (g 5, 16, .inl fh1)), (q_2, .inl (g 5, 1, .inl (va_cpy fh1 (fun _ => 0) (0 : Int32).toNatClampNeg (0 : Int32).toNatClampNeg (1 : Int32).toNatClampNeg)))]) [0, 1, 2, 3] (by decide) rfl
  refine W.widen (k := 2) (n := 5) (Nat.le_of_ble_eq_true rfl) (Nat.le_of_ble_eq_true rfl) ?_
  exact W.aret (v := .ref q_1) hx hb hr (Or.inl ⟨_, rfl⟩) (Or.inr ⟨_, rfl⟩) (fun t ht9 hW9 => ⟨⟨(), _, rfl, trivial, ⟨q_1, q_2, rfl, (by rw [ht9]; exact hP9), hD9⟩⟩, hS.F ht9⟩) hS.2.2 dJ4_toString_0e30d_8 hlocks
set_option maxHeartbeats 4000000 in
set_option maxRecDepth 100000 in
theorem k_J0_coder_7d493_v6 (l : Launch) (D : va_G) (g : Nat → ClassId) (z0 sz : Nat) (a : Nat → Nat) (h0 : Nat) (h1 : Nat) (fh1 : Nat → Int32) (hfh1 : ∀ j : Nat, fits .byte (.int (fh1 j)) = true) : Met l yJ0_coder_7d493 (.code yJ0_coder_7d493 cJ0_coder_7d493 1 (some .byte) :: TG) (rmk 0 0 0 0) (va_Pc [.ref h0] (PP D g z0 sz [(h0, .inr (0, [.ref h1, .int 0, .int 0, .int 0]))])) (va_Qi (fun (r : Int32) (u : Unit) => (r = 0) ∧ True) (fun (_ : Unit) (_ : State) => True) (va_A [] sz)) 0 0 (va_A [] sz) := by
  refine met0 (cc := cJ0_coder_7d493) (n := 1) (by decide) (Nat.le_of_ble_eq_true rfl) ?_
  intro p e s m args below meth c hx hb hr hml hown ht hlocks hnm hP0 hD0 hK hZ hsz hz ls hl
  subst hsz
  have hA : ∀ q : Nat, s.heap.size ≤ q → va_A [] s.heap.size q := Anw
  have hAz : ∀ q, va_A [] s.heap.size q → z0 ≤ q := A0z hz
  have hS : va_S (va_A [] s.heap.size) s.heap s.heap [] := va_S.rf
  have hl : lv_has ls 1 [(0, .ref h0)] := hl
  refine va_gets (C := "java/lang/String") (n := "COMPACT_STRINGS") (d := "Z") (v := .int 1) hx hb (hZ.m hAz).2.2.2.1 hS hown (ht _ w_388) (fun _ h9 => h9) dJ0_coder_7d493_0 ?_
  refine lv_if_eq (tgt := 13) hx hb dJ0_coder_7d493_3 (by decide) (fun c_1 => ?_) (fun c_1 => ?_)
  · exact absurd c_1 (by decide)
  · refine lv_aload_n hx hb dJ0_coder_7d493_6 rfl (lv_at hl 0 rfl) ?_
    refine va_get (D := D) (ci := 0) (v := .int 0) (C := RJ0) (T := TJ0) (N := 4) hx hb ht in_J0 hown hK.1 (ro0 hP0 hS) 0 rfl rfl 1 (by decide) (ht _ w_389) (fun _ h9 => h9) rfl dJ0_coder_7d493_7 ?_
    refine lv_goto (tgt := 14) hx hb dJ0_coder_7d493_10 (by decide) ?_
    refine W.widen (k := 0) (n := 0) (Nat.le_of_ble_eq_true rfl) (Nat.le_of_ble_eq_true rfl) ?_
    exact W.zret (v := 0) hx hb hr rfl (fun t ht9 hW9 => ⟨⟨0, (), rfl, ⟨rfl, trivial⟩, trivial⟩, hS.F ht9⟩) hS.2.2 dJ0_coder_7d493_14 hlocks
set_option maxHeartbeats 4000000 in
set_option maxRecDepth 100000 in
theorem k_J0_length_8abf5_v6 (l : Launch) (D : va_G) (g : Nat → ClassId) (z0 sz : Nat) (a : Nat → Nat) (e0 : Nat) (h0 : Nat) (h1 : Nat) (fh1 : Nat → Int32) (hfh1 : ∀ j : Nat, fits .byte (.int (fh1 j)) = true) : Met l yJ0_length_8abf5 (.code yJ0_length_8abf5 cJ0_length_8abf5 1 (some .int) :: TG) (rmk 1 0 0 20) (va_Pc [.ref h0] (PP D g z0 sz [(h0, .inr (0, [.ref h1, .int 0, .int 0, .int 0])), (h1, .inl (g 5, 1, .inl fh1))])) (va_Qi (fun (r : Int32) (u : Unit) => (r = 1) ∧ True) (fun (_ : Unit) (_ : State) => True) (va_A [] sz)) 0 0 (va_A [] sz) := by
  refine met0 (cc := cJ0_length_8abf5) (n := 1) (by decide) (Nat.le_of_ble_eq_true rfl) ?_
  intro p e s m args below meth c hx hb hr hml hown ht hlocks hnm hP0 hD0 hK hZ hsz hz ls hl
  subst hsz
  have hA : ∀ q : Nat, s.heap.size ≤ q → va_A [] s.heap.size q := Anw
  have hAz : ∀ q, va_A [] s.heap.size q → z0 ≤ q := A0z hz
  have hS : va_S (va_A [] s.heap.size) s.heap s.heap [] := va_S.rf
  have hl : lv_has ls 1 [(0, .ref h0)] := hl
  refine lv_aload_n hx hb dJ0_length_8abf5_0 rfl (lv_at hl 0 rfl) ?_
  refine va_get (D := D) (ci := 0) (v := .ref h1) (C := RJ0) (T := TJ0) (N := 4) hx hb ht in_J0 hown hK.1 (ro0 hP0 hS) 0 rfl rfl 0 (by decide) (ht _ w_395) (fun _ h9 => h9) rfl dJ0_length_8abf5_1 ?_
  refine va_alen (v := 1) hx hb hK.1 (ro0 hP0 hS) 1 5 rfl rfl rfl dJ0_length_8abf5_4 ?_
  refine lv_aload_n hx hb dJ0_length_8abf5_5 rfl (lv_at hl 0 rfl) ?_
  have hPc : va_P D vwCl [(h0, .inr (0, [.ref h1, .int 0, .int 0, .int 0]))] _ := (ro0 hP0 hS).sub (ws' := [(h0, .inr (0, [.ref h1, .int 0, .int 0, .int 0]))]) [0] rfl
  have hDc : va_D (fun q => z0 ≤ q) [(h0, .inr (0, [.ref h1, .int 0, .int 0, .int 0]))] := hD0.pick (ws' := [(h0, .inr (0, [.ref h1, .int 0, .int 0, .int 0]))]) [0] (by decide) rfl
  have hFc := AnA (ws := []) hS.1
  refine va_calli (va_runV (As := []) (rest := [.int 1]) ⟨hx, hb, hml, hown, ht⟩ (k_J0_coder_7d493_v6 l D g z0 _ a h0 h1 fh1 hfh1) (cwV 0 ht (gV w_396 w_398 w_399 w_394 w_397) rfl rfl rfl (by decide +kernel) (le2 rfl rfl)) ⟨PP.blind, va_recv hK.1 (ro0 hP0 hS) (ci := 0) (q0 := 0) rfl rfl, PP.mk' hK hZ hz hAz hS hPc hDc⟩ rfl rfl hl.1 rfl (lv_room (Nat.le_of_ble_eq_true rfl)) dJ0_length_8abf5_6 (le2 rfl rfl)) hS (fun q _ h => hFc q h) hFc (fun r u t H locs ht1 hvm hw hB hz1 hk1 hS => ?_)
  obtain ⟨rfl, hw⟩ := hw
  refine lv_ishr hx hb dJ0_length_8abf5_9 ?_
  refine r_topi (v := 1) (by decide) ?_
  refine W.widen (k := 0) (n := 0) (Nat.le_of_ble_eq_true rfl) (Nat.le_of_ble_eq_true rfl) ?_
  exact W.iret (v := 1) hx hb hr (fun t ht9 hW9 => ⟨⟨1, (), rfl, ⟨rfl, trivial⟩, trivial⟩, hS.F ht9⟩) hS.2.2 dJ0_length_8abf5_10 hlocks
set_option maxHeartbeats 4000000 in
set_option maxRecDepth 100000 in
theorem k_X15_march (l : Launch) (D : va_G) (g : Nat → ClassId) (z0 sz : Nat) (a : Nat → Nat) (p0 : Int32) (hc_p0 : isC p0) : Met l yX15_march (.code yX15_march cX15_march 2 (some .int) :: TG) (rmk 6 4 25 175) (va_Pc [.ref (a 200), .int p0] (PP D g z0 sz [((a 200), f_m a g)])) (va_Qi (fun (r : Int32) (u : Int32 × Nat) => ((r = 0) ∧ (u.1 = 1) ∧ (((¬ p0 = 94) ∧ (¬ p0 = 118) ∧ (¬ p0 = 48) ∧ (¬ p0 = 49) ∧ (¬ p0 = 122) ∧ (¬ p0 = 111)) ∨ ((¬ p0 = 94) ∧ (¬ p0 = 118) ∧ (¬ p0 = 48) ∧ (¬ p0 = 49) ∧ (¬ p0 = 122) ∧ (¬ p0 = 111)) ∨ ((¬ p0 = 94) ∧ (¬ p0 = 118) ∧ (¬ p0 = 48) ∧ (¬ p0 = 49) ∧ (¬ p0 = 122) ∧ (¬ p0 = 111)))) ∨ ((r = 1) ∧ (u.1 = 0) ∧ (p0 = 111)) ∨ ((r = 1) ∧ (u.1 = 0) ∧ (p0 = 122)) ∨ ((r = 1) ∧ (u.1 = 0) ∧ (p0 = 49)) ∨ ((r = 1) ∧ (u.1 = 0) ∧ (p0 = 48)) ∨ ((r = 1) ∧ (u.1 = 0) ∧ (p0 = 118)) ∨ ((r = 1) ∧ (u.1 = 0) ∧ (p0 = 94))) (fun (u : Int32 × Nat) (t : State) => va_P D vwCl [((a 200), .inr (21, [.int u.1, .ref (a 201), .ref (a 202), .ref (a 203), .ref (a 204), .ref (a 205), .ref (a 206), .int 0, .int 0, .int 0, .int 0, .ref (a 208), .ref (a 209), .ref (a 210), .ref (a 211), .ref (a 212), .int 4, .int 12, .int (-1), .int 0, .ref u.2, .ref (a 213), .int 0, .int 97, .ref (a 214), .ref (a 215), .ref (a 207), .null, .int 0]))] t.heap ∧ va_D (va_A [((a 200), f_m a g)] sz) [((a 200), .inr (21, [.int u.1, .ref (a 201), .ref (a 202), .ref (a 203), .ref (a 204), .ref (a 205), .ref (a 206), .int 0, .int 0, .int 0, .int 0, .ref (a 208), .ref (a 209), .ref (a 210), .ref (a 211), .ref (a 212), .int 4, .int 12, .int (-1), .int 0, .ref u.2, .ref (a 213), .int 0, .int 97, .ref (a 214), .ref (a 215), .ref (a 207), .null, .int 0]))]) (va_A [((a 200), f_m a g)] sz)) 4 25 (va_A [((a 200), f_m a g)] sz) := by
  refine met0 (cc := cX15_march) (n := 2) (by decide) (Nat.le_of_ble_eq_true rfl) ?_
  intro p e s m args below meth c hx hb hr hml hown ht hlocks hnm hP0 hD0 hK hZ hsz hz ls hl
  subst hsz
  have hA : ∀ q : Nat, s.heap.size ≤ q → va_A [((a 200), f_m a g)] s.heap.size q := Anw
  have hAz : ∀ q, va_A [((a 200), f_m a g)] s.heap.size q → z0 ≤ q := Awz hz hD0
  have hS : va_S (va_A [((a 200), f_m a g)] s.heap.size) s.heap s.heap [] := va_S.rf
  have hD : va_D (va_A [((a 200), f_m a g)] s.heap.size) [((a 200), f_m a g)] := hD0.self
  have hP : va_P D vwCl [((a 200), f_m a g)] s.heap := hP0
  have hl : lv_has ls 2 [(0, .ref (a 200)), (1, .int p0)] := hl
  refine lv_aload_n hx hb dX15_march_0 rfl (lv_at hl 0 rfl) ?_
  refine r_ldcSw (index := 448) (tx := "^v01zo") (q := g 205) hx hb hown (hK.2.2.2.2.2.2.1 5 (by decide)) dX15_march_1 ?_
  refine lv_iload_n hx hb dX15_march_4 rfl (lv_at hl 1 rfl) ?_
  have hPc : va_P D vwCl [] _ := hP.sub (ws' := []) [] rfl
  have hDc : va_D (fun q => z0 ≤ q) [] := (hD.to hAz).pick (ws' := []) [] (by decide) rfl
  have hFc := AnA (ws := [((a 200), f_m a g)]) hS.1
  refine va_calli (va_runV (As := [.int p0]) (rest := [.ref (a 200)]) ⟨hx, hb, hml, hown, ht⟩ (k_J0_indexOf_0f7a4_v4 l D g z0 _ a p0) (cwV 1 ht (gV w_425 w_427 w_428 w_394 w_426) rfl rfl rfl (by decide +kernel) (le2 rfl rfl)) ⟨PP.blind, vk_recv (i := 5) (hZ.m hAz).2.2.1 (by decide) hS, PP.mk' hK hZ hz hAz hS hPc hDc⟩ rfl rfl hl.1 rfl (lv_room (Nat.le_of_ble_eq_true rfl)) dX15_march_5 (le2 rfl rfl)) hS (fun q _ h => hFc q h) hFc (fun r u t H locs ht1 hvm hw hB hz1 hk1 hS => ?_)
  rcases hw with hw | hw | hw | hw | hw | hw | hw
  · obtain ⟨rfl, hw⟩ := hw
    rcases hw with hw | hw | hw
    · obtain ⟨c_1, c_2, c_3, c_4, c_5, c_6⟩ := hw
      have hP := ro1 hP hk1
      refine lv_if_ge (tgt := 15) hx hb dX15_march_8 (by decide) (fun c_7 => ?_) (fun c_7 => ?_)
      · exact absurd c_7 (by decide)
      · refine lv_iconst (v := 1) hx hb dX15_march_11 (by decide) ?_
        refine lv_goto (tgt := 32) hx hb dX15_march_12 (by decide) ?_
        have hPc : va_P D vwCl [((a 200), f_m a g)] _ := hP.sub (ws' := [((a 200), f_m a g)]) [0] rfl
        have hDc : va_D (fun q => z0 ≤ q) [((a 200), f_m a g)] := (hD.to hAz).pick (ws' := [((a 200), f_m a g)]) [0] (by decide) rfl
        have hFc := va_free (wc := [((a 200), f_m a g)]) hD hS hA [0] rfl
        refine va_calli (va_runV (As := [.int 1]) (rest := []) ⟨hx, hb, hml, hown, ht⟩ (k_X15_isWrong l D g z0 _ a) (cwV 1 ht (gV w_376 w_378 w_379 w_334 w_377) rfl rfl rfl (by decide +kernel) (le2 rfl rfl)) ⟨PP.blind, va_recv hK.1 hP (ci := 21) (q0 := 0) rfl rfl, PP.mk' hK hZ hz hAz hS hPc hDc⟩ rfl rfl hl.1 rfl (lv_room (Nat.le_of_ble_eq_true rfl)) dX15_march_32 (le2 rfl rfl)) hS (fun q _ h => hFc q h) hFc (fun r u t H locs ht1 hvm hw hB hz1 hk1 hS => ?_)
        obtain ⟨rfl, hw⟩ := hw
        obtain ⟨hP1, hD1⟩ := hB
        rw [ht1] at hP1
        obtain ⟨hP, hD⟩ := va_join (wr := []) (w1 := [((a 200), .inr (21, [.int 1, .ref (a 201), .ref (a 202), .ref (a 203), .ref (a 204), .ref (a 205), .ref (a 206), .int 0, .int 0, .int 0, .int 0, .ref (a 208), .ref (a 209), .ref (a 210), .ref (a 211), .ref (a 212), .int 4, .int 12, .int (-1), .int 0, .ref (g 200), .ref (a 213), .int 0, .int 97, .ref (a 214), .ref (a 215), .ref (a 207), .null, .int 0]))]) hP hD [0] [] rfl rfl (by decide) (by decide) hk1 hFc hP1 hD1
        have hP : va_P D vwCl [((a 200), .inr (21, [.int 1, .ref (a 201), .ref (a 202), .ref (a 203), .ref (a 204), .ref (a 205), .ref (a 206), .int 0, .int 0, .int 0, .int 0, .ref (a 208), .ref (a 209), .ref (a 210), .ref (a 211), .ref (a 212), .int 4, .int 12, .int (-1), .int 0, .ref (g 200), .ref (a 213), .int 0, .int 97, .ref (a 214), .ref (a 215), .ref (a 207), .null, .int 0]))] H := hP
        have hD : va_D (va_A [((a 200), f_m a g)] s.heap.size) [((a 200), .inr (21, [.int 1, .ref (a 201), .ref (a 202), .ref (a 203), .ref (a 204), .ref (a 205), .ref (a 206), .int 0, .int 0, .int 0, .int 0, .ref (a 208), .ref (a 209), .ref (a 210), .ref (a 211), .ref (a 212), .int 4, .int 12, .int (-1), .int 0, .ref (g 200), .ref (a 213), .int 0, .int 97, .ref (a 214), .ref (a 215), .ref (a 207), .null, .int 0]))] := hD
        refine lv_if_eq (tgt := 40) hx hb dX15_march_35 (by decide) (fun c_8 => ?_) (fun c_8 => ?_)
        · exact absurd c_8 (by decide)
        · refine lv_iconst (v := 0) hx hb dX15_march_38 (by decide) ?_
          have hP9 := hP.sub (ws' := [((a 200), .inr (21, [.int 1, .ref (a 201), .ref (a 202), .ref (a 203), .ref (a 204), .ref (a 205), .ref (a 206), .int 0, .int 0, .int 0, .int 0, .ref (a 208), .ref (a 209), .ref (a 210), .ref (a 211), .ref (a 212), .int 4, .int 12, .int (-1), .int 0, .ref (g 200), .ref (a 213), .int 0, .int 97, .ref (a 214), .ref (a 215), .ref (a 207), .null, .int 0]))]) [0] rfl
          have hD9 := hD.sub (ws' := [((a 200), .inr (21, [.int 1, .ref (a 201), .ref (a 202), .ref (a 203), .ref (a 204), .ref (a 205), .ref (a 206), .int 0, .int 0, .int 0, .int 0, .ref (a 208), .ref (a 209), .ref (a 210), .ref (a 211), .ref (a 212), .int 4, .int 12, .int (-1), .int 0, .ref (g 200), .ref (a 213), .int 0, .int 97, .ref (a 214), .ref (a 215), .ref (a 207), .null, .int 0]))]) [0] (by decide) rfl
          refine W.widen (k := 4) (n := 25) (Nat.le_of_ble_eq_true rfl) (Nat.le_of_ble_eq_true rfl) ?_
          exact W.iret (v := 0) hx hb hr (fun t ht9 hW9 => ⟨⟨0, (1, (g 200)), rfl, (Or.inl ⟨rfl, rfl, (Or.inl ⟨c_1, c_2, c_3, c_4, c_5, c_6⟩)⟩), ⟨(by rw [ht9]; exact hP9), hD9⟩⟩, hS.F ht9⟩) hS.2.2 dX15_march_39 hlocks
    · obtain ⟨c_9, c_10, c_11, c_12, c_13, c_14⟩ := hw
      have hP := ro1 hP hk1
      refine lv_if_ge (tgt := 15) hx hb dX15_march_8 (by decide) (fun c_15 => ?_) (fun c_15 => ?_)
      · exact absurd c_15 (by decide)
      · refine lv_iconst (v := 1) hx hb dX15_march_11 (by decide) ?_
        refine lv_goto (tgt := 32) hx hb dX15_march_12 (by decide) ?_
        have hPc : va_P D vwCl [((a 200), f_m a g)] _ := hP.sub (ws' := [((a 200), f_m a g)]) [0] rfl
        have hDc : va_D (fun q => z0 ≤ q) [((a 200), f_m a g)] := (hD.to hAz).pick (ws' := [((a 200), f_m a g)]) [0] (by decide) rfl
        have hFc := va_free (wc := [((a 200), f_m a g)]) hD hS hA [0] rfl
        refine va_calli (va_runV (As := [.int 1]) (rest := []) ⟨hx, hb, hml, hown, ht⟩ (k_X15_isWrong l D g z0 _ a) (cwV 1 ht (gV w_376 w_378 w_379 w_334 w_377) rfl rfl rfl (by decide +kernel) (le2 rfl rfl)) ⟨PP.blind, va_recv hK.1 hP (ci := 21) (q0 := 0) rfl rfl, PP.mk' hK hZ hz hAz hS hPc hDc⟩ rfl rfl hl.1 rfl (lv_room (Nat.le_of_ble_eq_true rfl)) dX15_march_32 (le2 rfl rfl)) hS (fun q _ h => hFc q h) hFc (fun r u t H locs ht1 hvm hw hB hz1 hk1 hS => ?_)
        obtain ⟨rfl, hw⟩ := hw
        obtain ⟨hP1, hD1⟩ := hB
        rw [ht1] at hP1
        obtain ⟨hP, hD⟩ := va_join (wr := []) (w1 := [((a 200), .inr (21, [.int 1, .ref (a 201), .ref (a 202), .ref (a 203), .ref (a 204), .ref (a 205), .ref (a 206), .int 0, .int 0, .int 0, .int 0, .ref (a 208), .ref (a 209), .ref (a 210), .ref (a 211), .ref (a 212), .int 4, .int 12, .int (-1), .int 0, .ref (g 200), .ref (a 213), .int 0, .int 97, .ref (a 214), .ref (a 215), .ref (a 207), .null, .int 0]))]) hP hD [0] [] rfl rfl (by decide) (by decide) hk1 hFc hP1 hD1
        have hP : va_P D vwCl [((a 200), .inr (21, [.int 1, .ref (a 201), .ref (a 202), .ref (a 203), .ref (a 204), .ref (a 205), .ref (a 206), .int 0, .int 0, .int 0, .int 0, .ref (a 208), .ref (a 209), .ref (a 210), .ref (a 211), .ref (a 212), .int 4, .int 12, .int (-1), .int 0, .ref (g 200), .ref (a 213), .int 0, .int 97, .ref (a 214), .ref (a 215), .ref (a 207), .null, .int 0]))] H := hP
        have hD : va_D (va_A [((a 200), f_m a g)] s.heap.size) [((a 200), .inr (21, [.int 1, .ref (a 201), .ref (a 202), .ref (a 203), .ref (a 204), .ref (a 205), .ref (a 206), .int 0, .int 0, .int 0, .int 0, .ref (a 208), .ref (a 209), .ref (a 210), .ref (a 211), .ref (a 212), .int 4, .int 12, .int (-1), .int 0, .ref (g 200), .ref (a 213), .int 0, .int 97, .ref (a 214), .ref (a 215), .ref (a 207), .null, .int 0]))] := hD
        refine lv_if_eq (tgt := 40) hx hb dX15_march_35 (by decide) (fun c_16 => ?_) (fun c_16 => ?_)
        · exact absurd c_16 (by decide)
        · refine lv_iconst (v := 0) hx hb dX15_march_38 (by decide) ?_
          have hP9 := hP.sub (ws' := [((a 200), .inr (21, [.int 1, .ref (a 201), .ref (a 202), .ref (a 203), .ref (a 204), .ref (a 205), .ref (a 206), .int 0, .int 0, .int 0, .int 0, .ref (a 208), .ref (a 209), .ref (a 210), .ref (a 211), .ref (a 212), .int 4, .int 12, .int (-1), .int 0, .ref (g 200), .ref (a 213), .int 0, .int 97, .ref (a 214), .ref (a 215), .ref (a 207), .null, .int 0]))]) [0] rfl
          have hD9 := hD.sub (ws' := [((a 200), .inr (21, [.int 1, .ref (a 201), .ref (a 202), .ref (a 203), .ref (a 204), .ref (a 205), .ref (a 206), .int 0, .int 0, .int 0, .int 0, .ref (a 208), .ref (a 209), .ref (a 210), .ref (a 211), .ref (a 212), .int 4, .int 12, .int (-1), .int 0, .ref (g 200), .ref (a 213), .int 0, .int 97, .ref (a 214), .ref (a 215), .ref (a 207), .null, .int 0]))]) [0] (by decide) rfl
          refine W.widen (k := 4) (n := 25) (Nat.le_of_ble_eq_true rfl) (Nat.le_of_ble_eq_true rfl) ?_
          exact W.iret (v := 0) hx hb hr (fun t ht9 hW9 => ⟨⟨0, (1, (g 200)), rfl, (Or.inl ⟨rfl, rfl, (Or.inl ⟨c_9, c_10, c_11, c_12, c_13, c_14⟩)⟩), ⟨(by rw [ht9]; exact hP9), hD9⟩⟩, hS.F ht9⟩) hS.2.2 dX15_march_39 hlocks
    · obtain ⟨c_17, c_18, c_19, c_20, c_21, c_22⟩ := hw
      have hP := ro1 hP hk1
      refine lv_if_ge (tgt := 15) hx hb dX15_march_8 (by decide) (fun c_23 => ?_) (fun c_23 => ?_)
      · exact absurd c_23 (by decide)
      · refine lv_iconst (v := 1) hx hb dX15_march_11 (by decide) ?_
        refine lv_goto (tgt := 32) hx hb dX15_march_12 (by decide) ?_
        have hPc : va_P D vwCl [((a 200), f_m a g)] _ := hP.sub (ws' := [((a 200), f_m a g)]) [0] rfl
        have hDc : va_D (fun q => z0 ≤ q) [((a 200), f_m a g)] := (hD.to hAz).pick (ws' := [((a 200), f_m a g)]) [0] (by decide) rfl
        have hFc := va_free (wc := [((a 200), f_m a g)]) hD hS hA [0] rfl
        refine va_calli (va_runV (As := [.int 1]) (rest := []) ⟨hx, hb, hml, hown, ht⟩ (k_X15_isWrong l D g z0 _ a) (cwV 1 ht (gV w_376 w_378 w_379 w_334 w_377) rfl rfl rfl (by decide +kernel) (le2 rfl rfl)) ⟨PP.blind, va_recv hK.1 hP (ci := 21) (q0 := 0) rfl rfl, PP.mk' hK hZ hz hAz hS hPc hDc⟩ rfl rfl hl.1 rfl (lv_room (Nat.le_of_ble_eq_true rfl)) dX15_march_32 (le2 rfl rfl)) hS (fun q _ h => hFc q h) hFc (fun r u t H locs ht1 hvm hw hB hz1 hk1 hS => ?_)
        obtain ⟨rfl, hw⟩ := hw
        obtain ⟨hP1, hD1⟩ := hB
        rw [ht1] at hP1
        obtain ⟨hP, hD⟩ := va_join (wr := []) (w1 := [((a 200), .inr (21, [.int 1, .ref (a 201), .ref (a 202), .ref (a 203), .ref (a 204), .ref (a 205), .ref (a 206), .int 0, .int 0, .int 0, .int 0, .ref (a 208), .ref (a 209), .ref (a 210), .ref (a 211), .ref (a 212), .int 4, .int 12, .int (-1), .int 0, .ref (g 200), .ref (a 213), .int 0, .int 97, .ref (a 214), .ref (a 215), .ref (a 207), .null, .int 0]))]) hP hD [0] [] rfl rfl (by decide) (by decide) hk1 hFc hP1 hD1
        have hP : va_P D vwCl [((a 200), .inr (21, [.int 1, .ref (a 201), .ref (a 202), .ref (a 203), .ref (a 204), .ref (a 205), .ref (a 206), .int 0, .int 0, .int 0, .int 0, .ref (a 208), .ref (a 209), .ref (a 210), .ref (a 211), .ref (a 212), .int 4, .int 12, .int (-1), .int 0, .ref (g 200), .ref (a 213), .int 0, .int 97, .ref (a 214), .ref (a 215), .ref (a 207), .null, .int 0]))] H := hP
        have hD : va_D (va_A [((a 200), f_m a g)] s.heap.size) [((a 200), .inr (21, [.int 1, .ref (a 201), .ref (a 202), .ref (a 203), .ref (a 204), .ref (a 205), .ref (a 206), .int 0, .int 0, .int 0, .int 0, .ref (a 208), .ref (a 209), .ref (a 210), .ref (a 211), .ref (a 212), .int 4, .int 12, .int (-1), .int 0, .ref (g 200), .ref (a 213), .int 0, .int 97, .ref (a 214), .ref (a 215), .ref (a 207), .null, .int 0]))] := hD
        refine lv_if_eq (tgt := 40) hx hb dX15_march_35 (by decide) (fun c_24 => ?_) (fun c_24 => ?_)
        · exact absurd c_24 (by decide)
        · refine lv_iconst (v := 0) hx hb dX15_march_38 (by decide) ?_
          have hP9 := hP.sub (ws' := [((a 200), .inr (21, [.int 1, .ref (a 201), .ref (a 202), .ref (a 203), .ref (a 204), .ref (a 205), .ref (a 206), .int 0, .int 0, .int 0, .int 0, .ref (a 208), .ref (a 209), .ref (a 210), .ref (a 211), .ref (a 212), .int 4, .int 12, .int (-1), .int 0, .ref (g 200), .ref (a 213), .int 0, .int 97, .ref (a 214), .ref (a 215), .ref (a 207), .null, .int 0]))]) [0] rfl
          have hD9 := hD.sub (ws' := [((a 200), .inr (21, [.int 1, .ref (a 201), .ref (a 202), .ref (a 203), .ref (a 204), .ref (a 205), .ref (a 206), .int 0, .int 0, .int 0, .int 0, .ref (a 208), .ref (a 209), .ref (a 210), .ref (a 211), .ref (a 212), .int 4, .int 12, .int (-1), .int 0, .ref (g 200), .ref (a 213), .int 0, .int 97, .ref (a 214), .ref (a 215), .ref (a 207), .null, .int 0]))]) [0] (by decide) rfl
          refine W.widen (k := 4) (n := 25) (Nat.le_of_ble_eq_true rfl) (Nat.le_of_ble_eq_true rfl) ?_
          exact W.iret (v := 0) hx hb hr (fun t ht9 hW9 => ⟨⟨0, (1, (g 200)), rfl, (Or.inl ⟨rfl, rfl, (Or.inl ⟨c_17, c_18, c_19, c_20, c_21, c_22⟩)⟩), ⟨(by rw [ht9]; exact hP9), hD9⟩⟩, hS.F ht9⟩) hS.2.2 dX15_march_39 hlocks
  · obtain ⟨rfl, hw⟩ := hw
    have c_25 := hw
    have hP := ro1 hP hk1
    refine lv_if_ge (tgt := 15) hx hb dX15_march_8 (by decide) (fun c_26 => ?_) (fun c_26 => ?_)
    · refine lv_aload_n hx hb dX15_march_15 rfl (lv_at hl 0 rfl) ?_
      refine va_get (D := D) (ci := 21) (v := .ref (g 200)) (C := RX15) (T := TX15) (N := 29) hx hb ht in_X15 hown hK.1 hP 0 rfl rfl 20 (by decide) (ht _ w_491) (fun _ h9 => h9) rfl dX15_march_16 ?_
      have hPc : va_P D vwCl [] _ := hP.sub (ws' := []) [] rfl
      have hDc : va_D (fun q => z0 ≤ q) [] := (hD.to hAz).pick (ws' := []) [] (by decide) rfl
      have hFc := AnA (ws := [((a 200), f_m a g)]) hS.1
      refine va_calli (va_runV (As := []) (rest := [.ref (a 200)]) ⟨hx, hb, hml, hown, ht⟩ (k_J0_length_8abf5_v2 l D g z0 _ a) (cwV 0 ht (gV w_492 w_402 w_403 w_394 w_401) rfl rfl rfl (by decide +kernel) (le2 rfl rfl)) ⟨PP.blind, vk_recv (i := 0) (hZ.m hAz).2.2.1 (by decide) hS, PP.mk' hK hZ hz hAz hS hPc hDc⟩ rfl rfl hl.1 rfl (lv_room (Nat.le_of_ble_eq_true rfl)) dX15_march_19 (le2 rfl rfl)) hS (fun q _ h => hFc q h) hFc (fun r u t H locs ht1 hvm hw hB hz1 hk1 hS => ?_)
      obtain ⟨rfl, hw⟩ := hw
      have hP := ro1 hP hk1
      refine lv_bipush (v := 24) hx hb dX15_march_22 (by decide) ?_
      refine lv_icmp_ne (tgt := 31) hx hb dX15_march_24 (by decide) (fun c_27 => ?_) (fun c_27 => ?_)
      · refine lv_iconst (v := 0) hx hb dX15_march_31 (by decide) ?_
        have hPc : va_P D vwCl [((a 200), f_m a g)] _ := hP.sub (ws' := [((a 200), f_m a g)]) [0] rfl
        have hDc : va_D (fun q => z0 ≤ q) [((a 200), f_m a g)] := (hD.to hAz).pick (ws' := [((a 200), f_m a g)]) [0] (by decide) rfl
        have hFc := va_free (wc := [((a 200), f_m a g)]) hD hS hA [0] rfl
        refine va_calli (va_runV (As := [.int 0]) (rest := []) ⟨hx, hb, hml, hown, ht⟩ (k_X15_isWrong_v1 l D g z0 _ a) (cwV 1 ht (gV w_376 w_378 w_379 w_334 w_377) rfl rfl rfl (by decide +kernel) (le2 rfl rfl)) ⟨PP.blind, va_recv hK.1 hP (ci := 21) (q0 := 0) rfl rfl, PP.mk' hK hZ hz hAz hS hPc hDc⟩ rfl rfl hl.1 rfl (lv_room (Nat.le_of_ble_eq_true rfl)) dX15_march_32 (le2 rfl rfl)) hS (fun q _ h => hFc q h) hFc (fun r u t H locs ht1 hvm hw hB hz1 hk1 hS => ?_)
        obtain ⟨rfl, hw⟩ := hw
        obtain ⟨hP1, hD1⟩ := hB
        rw [ht1] at hP1
        obtain ⟨hP, hD⟩ := va_join (wr := []) (w1 := [((a 200), f_m a g)]) hP hD [0] [] rfl rfl (by decide) (by decide) hk1 hFc hP1 hD1
        have hP : va_P D vwCl [((a 200), f_m a g)] H := hP
        have hD : va_D (va_A [((a 200), f_m a g)] s.heap.size) [((a 200), f_m a g)] := hD
        refine lv_if_eq (tgt := 40) hx hb dX15_march_35 (by decide) (fun c_28 => ?_) (fun c_28 => ?_)
        · refine va_new (ci := 1) (fs := [.null, .int 0, .int 0, .int 0]) (C := RJ4) (T := TJ4) (N := 4) hx hb ht in_J4 tyJ4 tyJ4_ok hown (ht _ w_1292) (ht _ w_1293) (ht _ w_1294) hK.1 hP hD hS hA rfl (fun j hj => by rcases (show j = 0 ∨ j = 1 ∨ j = 2 ∨ j = 3 by omega) with rfl | rfl | rfl | rfl <;> rfl) (Nat.le_of_ble_eq_true rfl) (Nat.le_of_ble_eq_true rfl) dX15_march_40 (fun q_29 H hP hD hS => ?_)
          have hP : va_P D vwCl [((a 200), f_m a g), (q_29, .inr (1, [.null, .int 0, .int 0, .int 0]))] H := hP
          have hD : va_D (va_A [((a 200), f_m a g)] s.heap.size) [((a 200), f_m a g), (q_29, .inr (1, [.null, .int 0, .int 0, .int 0]))] := hD
          refine lv_dup hx hb dX15_march_43 rfl ?_
          have hPc : va_P D vwCl [(q_29, .inr (1, [.null, .int 0, .int 0, .int 0]))] _ := hP.sub (ws' := [(q_29, .inr (1, [.null, .int 0, .int 0, .int 0]))]) [1] rfl
          have hDc : va_D (fun q => z0 ≤ q) [(q_29, .inr (1, [.null, .int 0, .int 0, .int 0]))] := (hD.to hAz).pick (ws' := [(q_29, .inr (1, [.null, .int 0, .int 0, .int 0]))]) [1] (by decide) rfl
          have hFc := va_free (wc := [(q_29, .inr (1, [.null, .int 0, .int 0, .int 0]))]) hD hS hA [1] rfl
          refine va_callv (va_runI (As := []) (rest := [.ref q_29]) ⟨hx, hb, hml, hown, ht⟩ (k_J4_init_da8c8 l D g z0 _ a q_29) (cwI 0 ht (gI w_1305) rfl rfl rfl (ht _ w_1294) (ht _ w_1304) (ht _ w_1306) rfl (by decide +kernel) (le2 rfl rfl)) ⟨PP.blind, PP.mk' hK hZ hz hAz hS hPc hDc⟩ rfl rfl hl.1 rfl (lv_room (Nat.le_of_ble_eq_true rfl)) dX15_march_44 (le2 rfl rfl)) hS (fun q _ h => hFc q h) hFc (fun u t H locs ht1 hvm hw hB hz1 hk1 hS => ?_)
          obtain ⟨q_30, hP1, hD1⟩ := hB
          rw [ht1] at hP1
          obtain ⟨hP, hD⟩ := va_join (wr := [((a 200), f_m a g)]) (w1 := [(q_29, .inr (1, [.ref q_30, .int 0, .int 0, .int 0])), (q_30, .inl (g 5, 16, .inl (fun _ => 0)))]) hP hD [1] [0] rfl rfl (by decide) (by decide) hk1 hFc hP1 hD1
          have hP : va_P D vwCl [((a 200), f_m a g), (q_29, .inr (1, [.ref q_30, .int 0, .int 0, .int 0])), (q_30, .inl (g 5, 16, .inl (fun _ => 0)))] H := hP
          have hD : va_D (va_A [((a 200), f_m a g)] s.heap.size) [((a 200), f_m a g), (q_29, .inr (1, [.ref q_30, .int 0, .int 0, .int 0])), (q_30, .inl (g 5, 16, .inl (fun _ => 0)))] := hD
          refine lv_aload_n hx hb dX15_march_47 rfl (lv_at hl 0 rfl) ?_
          refine lv_dup_x1 hx hb dX15_march_48 rfl rfl ?_
          refine va_get (D := D) (ci := 21) (v := .ref (g 200)) (C := RX15) (T := TX15) (N := 29) hx hb ht in_X15 hown hK.1 hP 0 rfl rfl 20 (by decide) (ht _ w_491) (fun _ h9 => h9) rfl dX15_march_49 ?_
          have hPc : va_P D vwCl [(q_29, .inr (1, [.ref q_30, .int 0, .int 0, .int 0])), (q_30, .inl (g 5, 16, .inl (fun _ => 0)))] _ := hP.sub (ws' := [(q_29, .inr (1, [.ref q_30, .int 0, .int 0, .int 0])), (q_30, .inl (g 5, 16, .inl (fun _ => 0)))]) [1, 2] rfl
          have hDc : va_D (fun q => z0 ≤ q) [(q_29, .inr (1, [.ref q_30, .int 0, .int 0, .int 0])), (q_30, .inl (g 5, 16, .inl (fun _ => 0)))] := (hD.to hAz).pick (ws' := [(q_29, .inr (1, [.ref q_30, .int 0, .int 0, .int 0])), (q_30, .inl (g 5, 16, .inl (fun _ => 0)))]) [1, 2] (by decide) rfl
          have hFc := va_free (wc := [(q_29, .inr (1, [.ref q_30, .int 0, .int 0, .int 0])), (q_30, .inl (g 5, 16, .inl (fun _ => 0)))]) hD hS hA [1, 2] rfl
          refine va_callr (va_runV (As := [.ref (g 200)]) (rest := [.ref (a 200)]) ⟨hx, hb, hml, hown, ht⟩ (k_J4_append_15ec4 l D g z0 _ a q_29 q_30 (fun _ => 0) (fun _ => by decide)) (cwV 1 ht (gV w_1338 w_1340 w_1341 w_1294 w_1339) rfl rfl rfl (by decide +kernel) (le2 rfl rfl)) ⟨PP.blind, va_recv hK.1 hP (ci := 1) (q0 := 1) rfl rfl, PP.mk' hK hZ hz hAz hS hPc hDc⟩ rfl rfl hl.1 rfl (lv_room (Nat.le_of_ble_eq_true rfl)) dX15_march_52 (le2 rfl rfl)) hS (fun q _ h => hFc q h) hFc (fun u ra t H locs ht1 hvm hw hB hz1 hk1 hS => ?_)
          obtain ⟨hr9, hP1, hD1⟩ := hB
          rw [ht1] at hP1
          obtain ⟨hP, hD⟩ := va_join (wr := [((a 200), f_m a g)]) (w1 := [(q_29, .inr (1, [.ref q_30, .int 0, .int 0, .int 0])), (q_30, .inl (g 5, 16, .inl (fun _ => 0)))]) hP hD [1, 2] [0] rfl rfl (by decide) (by decide) hk1 hFc hP1 hD1
          subst hr9
          have hP : va_P D vwCl [((a 200), f_m a g), (q_29, .inr (1, [.ref q_30, .int 0, .int 0, .int 0])), (q_30, .inl (g 5, 16, .inl (fun _ => 0)))] H := hP
          have hD : va_D (va_A [((a 200), f_m a g)] s.heap.size) [((a 200), f_m a g), (q_29, .inr (1, [.ref q_30, .int 0, .int 0, .int 0])), (q_30, .inl (g 5, 16, .inl (fun _ => 0)))] := hD
          refine lv_iload_n hx hb dX15_march_55 rfl (lv_at hl 1 rfl) ?_
          have hPc : va_P D vwCl [(q_29, .inr (1, [.ref q_30, .int 0, .int 0, .int 0])), (q_30, .inl (g 5, 16, .inl (fun _ => 0)))] _ := hP.sub (ws' := [(q_29, .inr (1, [.ref q_30, .int 0, .int 0, .int 0])), (q_30, .inl (g 5, 16, .inl (fun _ => 0)))]) [1, 2] rfl
          have hDc : va_D (fun q => z0 ≤ q) [(q_29, .inr (1, [.ref q_30, .int 0, .int 0, .int 0])), (q_30, .inl (g 5, 16, .inl (fun _ => 0)))] := (hD.to hAz).pick (ws' := [(q_29, .inr (1, [.ref q_30, .int 0, .int 0, .int 0])), (q_30, .inl (g 5, 16, .inl (fun _ => 0)))]) [1, 2] (by decide) rfl
          have hFc := va_free (wc := [(q_29, .inr (1, [.ref q_30, .int 0, .int 0, .int 0])), (q_30, .inl (g 5, 16, .inl (fun _ => 0)))]) hD hS hA [1, 2] rfl
          refine va_callr (va_runV (As := [.int p0]) (rest := [.ref (a 200)]) ⟨hx, hb, hml, hown, ht⟩ (k_J4_append_cf468 l D g z0 _ a q_29 q_30 (fun _ => 0) (fun _ => by decide) p0 (by rw [c_25]; decide) (by rw [c_25]; decide) hc_p0) (cwV 1 ht (gV w_1354 w_1356 w_1357 w_1294 w_1355) rfl rfl rfl (by decide +kernel) (le2 rfl rfl)) ⟨PP.blind, va_recv hK.1 hP (ci := 1) (q0 := 1) rfl rfl, PP.mk' hK hZ hz hAz hS hPc hDc⟩ rfl rfl hl.1 rfl (lv_room (Nat.le_of_ble_eq_true rfl)) dX15_march_56 (le2 rfl rfl)) hS (fun q _ h => hFc q h) hFc (fun u ra t H locs ht1 hvm hw hB hz1 hk1 hS => ?_)
          obtain ⟨hr9, hP1, hD1⟩ := hB
          rw [ht1] at hP1
          obtain ⟨hP, hD⟩ := va_join (wr := [((a 200), f_m a g)]) (w1 := [(q_29, .inr (1, [.ref q_30, .int 0, .int 0, .int 1])), (q_30, .inl (g 5, 16, .inl (upd (fun _ => 0) (0 : Int32).toNatClampNeg (vp_nar .byte p0.toInt8.toInt32))))]) hP hD [1, 2] [0] rfl rfl (by decide) (by decide) hk1 hFc hP1 hD1
          subst hr9
          have hP : va_P D vwCl [((a 200), f_m a g), (q_29, .inr (1, [.ref q_30, .int 0, .int 0, .int 1])), (q_30, .inl (g 5, 16, .inl (upd (fun _ => 0) (0 : Int32).toNatClampNeg (vp_nar .byte p0.toInt8.toInt32))))] H := hP
          have hD : va_D (va_A [((a 200), f_m a g)] s.heap.size) [((a 200), f_m a g), (q_29, .inr (1, [.ref q_30, .int 0, .int 0, .int 1])), (q_30, .inl (g 5, 16, .inl (upd (fun _ => 0) (0 : Int32).toNatClampNeg (vp_nar .byte p0.toInt8.toInt32))))] := hD
          have hPc : va_P D vwCl [(q_29, .inr (1, [.ref q_30, .int 0, .int 0, .int 1])), (q_30, .inl (g 5, 16, .inl (upd (fun _ => 0) (0 : Int32).toNatClampNeg (vp_nar .byte p0.toInt8.toInt32))))] _ := hP.sub (ws' := [(q_29, .inr (1, [.ref q_30, .int 0, .int 0, .int 1])), (q_30, .inl (g 5, 16, .inl (upd (fun _ => 0) (0 : Int32).toNatClampNeg (vp_nar .byte p0.toInt8.toInt32))))]) [1, 2] rfl
          have hDc : va_D (fun q => z0 ≤ q) [(q_29, .inr (1, [.ref q_30, .int 0, .int 0, .int 1])), (q_30, .inl (g 5, 16, .inl (upd (fun _ => 0) (0 : Int32).toNatClampNeg (vp_nar .byte p0.toInt8.toInt32))))] := (hD.to hAz).pick (ws' := [(q_29, .inr (1, [.ref q_30, .int 0, .int 0, .int 1])), (q_30, .inl (g 5, 16, .inl (upd (fun _ => 0) (0 : Int32).toNatClampNeg (vp_nar .byte p0.toInt8.toInt32))))]) [1, 2] (by decide) rfl
          have hFc := va_free (wc := [(q_29, .inr (1, [.ref q_30, .int 0, .int 0, .int 1])), (q_30, .inl (g 5, 16, .inl (upd (fun _ => 0) (0 : Int32).toNatClampNeg (vp_nar .byte p0.toInt8.toInt32))))]) hD hS hA [1, 2] rfl
          refine va_callr (va_runV (As := []) (rest := [.ref (a 200)]) ⟨hx, hb, hml, hown, ht⟩ (k_J4_toString_0e30d l D g z0 _ a q_29 q_30 (upd (fun _ => 0) (0 : Int32).toNatClampNeg (vp_nar .byte p0.toInt8.toInt32)) (fit_upd (fun _ => by decide))) (cwV 0 ht (gV w_1392 w_1394 w_1395 w_1294 w_1393) rfl rfl rfl (by decide +kernel) (le2 rfl rfl)) ⟨PP.blind, va_recv hK.1 hP (ci := 1) (q0 := 1) rfl rfl, PP.mk' hK hZ hz hAz hS hPc hDc⟩ rfl rfl hl.1 rfl (lv_room (Nat.le_of_ble_eq_true rfl)) dX15_march_59 (le2 rfl rfl)) hS (fun q _ h => hFc q h) hFc (fun u ra t H locs ht1 hvm hw hB hz1 hk1 hS => ?_)
          obtain ⟨q_31, q_32, hr9, hP1, hD1⟩ := hB
          rw [ht1] at hP1
          obtain ⟨hP, hD⟩ := va_join (wr := [((a 200), f_m a g)]) (w1 := [(q_29, .inr (1, [.ref q_30, .int 0, .int 0, .int 1])), (q_31, .inr (0, [.ref q_32, .int 0, .int 0, .int 0])), (q_30, .inl (g 5, 16, .inl (upd (fun _ => 0) (0 : Int32).toNatClampNeg (vp_nar .byte p0.toInt8.toInt32)))), (q_32, .inl (g 5, 1, .inl (va_cpy (upd (fun _ => 0) (0 : Int32).toNatClampNeg (vp_nar .byte p0.toInt8.toInt32)) (fun _ => 0) (0 : Int32).toNatClampNeg (0 : Int32).toNatClampNeg (1 : Int32).toNatClampNeg)))]) hP hD [1, 2] [0] rfl rfl (by decide) (by decide) hk1 hFc hP1 hD1
          subst hr9
          have hP : va_P D vwCl [((a 200), f_m a g), (q_29, .inr (1, [.ref q_30, .int 0, .int 0, .int 1])), (q_31, .inr (0, [.ref q_32, .int 0, .int 0, .int 0])), (q_30, .inl (g 5, 16, .inl (upd (fun _ => 0) (0 : Int32).toNatClampNeg (vp_nar .byte p0.toInt8.toInt32)))), (q_32, .inl (g 5, 1, .inl (va_cpy (upd (fun _ => 0) (0 : Int32).toNatClampNeg (vp_nar .byte p0.toInt8.toInt32)) (fun _ => 0) (0 : Int32).toNatClampNeg (0 : Int32).toNatClampNeg (1 : Int32).toNatClampNeg)))] H := hP
          have hD : va_D (va_A [((a 200), f_m a g)] s.heap.size) [((a 200), f_m a g), (q_29, .inr (1, [.ref q_30, .int 0, .int 0, .int 1])), (q_31, .inr (0, [.ref q_32, .int 0, .int 0, .int 0])), (q_30, .inl (g 5, 16, .inl (upd (fun _ => 0) (0 : Int32).toNatClampNeg (vp_nar .byte p0.toInt8.toInt32)))), (q_32, .inl (g 5, 1, .inl (va_cpy (upd (fun _ => 0) (0 : Int32).toNatClampNeg (vp_nar .byte p0.toInt8.toInt32)) (fun _ => 0) (0 : Int32).toNatClampNeg (0 : Int32).toNatClampNeg (1 : Int32).toNatClampNeg)))] := hD
          refine va_put (D := D) (ci := 21) (v := .ref q_31) (ty := .object "java/lang/String") (C := RX15) (T := TX15) (N := 29) hx hb ht in_X15 tyX15 tyX15_ok nmX15 hown hK.1 hP hD hS 0 rfl rfl 20 (by decide) (ht _ w_491) (fun _ h9 => h9) rfl (by decide +kernel) rfl rfl (Nat.le_of_ble_eq_true rfl) dX15_march_62 (fun H locs hP hD hS => ?_)
          have hP : va_P D vwCl [((a 200), .inr (21, [.int 0, .ref (a 201), .ref (a 202), .ref (a 203), .ref (a 204), .ref (a 205), .ref (a 206), .int 0, .int 0, .int 0, .int 0, .ref (a 208), .ref (a 209), .ref (a 210), .ref (a 211), .ref (a 212), .int 4, .int 12, .int (-1), .int 0, .ref q_31, .ref (a 213), .int 0, .int 97, .ref (a 214), .ref (a 215), .ref (a 207), .null, .int 0])), (q_29, .inr (1, [.ref q_30, .int 0, .int 0, .int 1])), (q_31, .inr (0, [.ref q_32, .int 0, .int 0, .int 0])), (q_30, .inl (g 5, 16, .inl (upd (fun _ => 0) (0 : Int32).toNatClampNeg (vp_nar .byte p0.toInt8.toInt32)))), (q_32, .inl (g 5, 1, .inl (va_cpy (upd (fun _ => 0) (0 : Int32).toNatClampNeg (vp_nar .byte p0.toInt8.toInt32)) (fun _ => 0) (0 : Int32).toNatClampNeg (0 : Int32).toNatClampNeg (1 : Int32).toNatClampNeg)))] H := hP
          have hD : va_D (va_A [((a 200), f_m a g)] s.heap.size) [((a 200), .inr (21, [.int 0, .ref (a 201), .ref (a 202), .ref (a 203), .ref (a 204), .ref (a 205), .ref (a 206), .int 0, .int 0, .int 0, .int 0, .ref (a 208), .ref (a 209), .ref (a 210), .ref (a 211), .ref (a 212), .int 4, .int 12, .int (-1), .int 0, .ref q_31, .ref (a 213), .int 0, .int 97, .ref (a 214), .ref (a 215), .ref (a 207), .null, .int 0])), (q_29, .inr (1, [.ref q_30, .int 0, .int 0, .int 1])), (q_31, .inr (0, [.ref q_32, .int 0, .int 0, .int 0])), (q_30, .inl (g 5, 16, .inl (upd (fun _ => 0) (0 : Int32).toNatClampNeg (vp_nar .byte p0.toInt8.toInt32)))), (q_32, .inl (g 5, 1, .inl (va_cpy (upd (fun _ => 0) (0 : Int32).toNatClampNeg (vp_nar .byte p0.toInt8.toInt32)) (fun _ => 0) (0 : Int32).toNatClampNeg (0 : Int32).toNatClampNeg (1 : Int32).toNatClampNeg)))] := hD
          refine lv_aload_n hx hb dX15_march_65 rfl (lv_at hl 0 rfl) ?_
          refine va_get (D := D) (ci := 21) (v := .ref q_31) (C := RX15) (T := TX15) (N := 29) hx hb ht in_X15 hown hK.1 hP 0 rfl rfl 20 (by decide) (ht _ w_491) (fun _ h9 => h9) rfl dX15_march_66 ?_
          have hPc : va_P D vwCl [(q_31, .inr (0, [.ref q_32, .int 0, .int 0, .int 0])), (q_32, .inl (g 5, 1, .inl (va_cpy (upd (fun _ => 0) (0 : Int32).toNatClampNeg (vp_nar .byte p0.toInt8.toInt32)) (fun _ => 0) (0 : Int32).toNatClampNeg (0 : Int32).toNatClampNeg (1 : Int32).toNatClampNeg)))] _ := hP.sub (ws' := [(q_31, .inr (0, [.ref q_32, .int 0, .int 0, .int 0])), (q_32, .inl (g 5, 1, .inl (va_cpy (upd (fun _ => 0) (0 : Int32).toNatClampNeg (vp_nar .byte p0.toInt8.toInt32)) (fun _ => 0) (0 : Int32).toNatClampNeg (0 : Int32).toNatClampNeg (1 : Int32).toNatClampNeg)))]) [2, 4] rfl
          have hDc : va_D (fun q => z0 ≤ q) [(q_31, .inr (0, [.ref q_32, .int 0, .int 0, .int 0])), (q_32, .inl (g 5, 1, .inl (va_cpy (upd (fun _ => 0) (0 : Int32).toNatClampNeg (vp_nar .byte p0.toInt8.toInt32)) (fun _ => 0) (0 : Int32).toNatClampNeg (0 : Int32).toNatClampNeg (1 : Int32).toNatClampNeg)))] := (hD.to hAz).pick (ws' := [(q_31, .inr (0, [.ref q_32, .int 0, .int 0, .int 0])), (q_32, .inl (g 5, 1, .inl (va_cpy (upd (fun _ => 0) (0 : Int32).toNatClampNeg (vp_nar .byte p0.toInt8.toInt32)) (fun _ => 0) (0 : Int32).toNatClampNeg (0 : Int32).toNatClampNeg (1 : Int32).toNatClampNeg)))]) [2, 4] (by decide) rfl
          have hFc := AnA (ws := [((a 200), f_m a g)]) hS.1
          refine va_calli (va_runV (As := []) (rest := []) ⟨hx, hb, hml, hown, ht⟩ (k_J0_length_8abf5_v6 l D g z0 _ a q_31 q_31 q_32 (va_cpy (upd (fun _ => 0) (0 : Int32).toNatClampNeg (vp_nar .byte p0.toInt8.toInt32)) (fun _ => 0) (0 : Int32).toNatClampNeg (0 : Int32).toNatClampNeg (1 : Int32).toNatClampNeg) (fit_cpy (fit_upd (fun _ => by decide)) (fun _ => by decide))) (cwV 0 ht (gV w_492 w_402 w_403 w_394 w_401) rfl rfl rfl (by decide +kernel) (le2 rfl rfl)) ⟨PP.blind, va_recv hK.1 hP (ci := 0) (q0 := 2) rfl rfl, PP.mk' hK hZ hz hAz hS hPc hDc⟩ rfl rfl hl.1 rfl (lv_room (Nat.le_of_ble_eq_true rfl)) dX15_march_69 (le2 rfl rfl)) hS (fun q _ h => hFc q h) hFc (fun r u t H locs ht1 hvm hw hB hz1 hk1 hS => ?_)
          obtain ⟨rfl, hw⟩ := hw
          have hP := ro1 hP hk1
          have hP9 := hP.sub (ws' := [((a 200), .inr (21, [.int 0, .ref (a 201), .ref (a 202), .ref (a 203), .ref (a 204), .ref (a 205), .ref (a 206), .int 0, .int 0, .int 0, .int 0, .ref (a 208), .ref (a 209), .ref (a 210), .ref (a 211), .ref (a 212), .int 4, .int 12, .int (-1), .int 0, .ref q_31, .ref (a 213), .int 0, .int 97, .ref (a 214), .ref (a 215), .ref (a 207), .null, .int 0]))]) [0] rfl
          have hD9 := hD.sub (ws' := [((a 200), .inr (21, [.int 0, .ref (a 201), .ref (a 202), .ref (a 203), .ref (a 204), .ref (a 205), .ref (a 206), .int 0, .int 0, .int 0, .int 0, .ref (a 208), .ref (a 209), .ref (a 210), .ref (a 211), .ref (a 212), .int 4, .int 12, .int (-1), .int 0, .ref q_31, .ref (a 213), .int 0, .int 97, .ref (a 214), .ref (a 215), .ref (a 207), .null, .int 0]))]) [0] (by decide) rfl
          refine W.widen (k := 4) (n := 25) (Nat.le_of_ble_eq_true rfl) (Nat.le_of_ble_eq_true rfl) ?_
          exact W.iret (v := 1) hx hb hr (fun t ht9 hW9 => ⟨⟨1, (0, q_31), rfl, (Or.inr (Or.inl ⟨rfl, rfl, c_25⟩)), ⟨(by rw [ht9]; exact hP9), hD9⟩⟩, hS.F ht9⟩) hS.2.2 dX15_march_72 hlocks
        · exact absurd c_28 (by decide)
      · exact absurd c_27 (by decide)
    · exact absurd c_26 (by decide)
  · obtain ⟨rfl, hw⟩ := hw
    have c_33 := hw
    have hP := ro1 hP hk1
    refine lv_if_ge (tgt := 15) hx hb dX15_march_8 (by decide) (fun c_34 => ?_) (fun c_34 => ?_)
    · refine lv_aload_n hx hb dX15_march_15 rfl (lv_at hl 0 rfl) ?_
      refine va_get (D := D) (ci := 21) (v := .ref (g 200)) (C := RX15) (T := TX15) (N := 29) hx hb ht in_X15 hown hK.1 hP 0 rfl rfl 20 (by decide) (ht _ w_491) (fun _ h9 => h9) rfl dX15_march_16 ?_
      have hPc : va_P D vwCl [] _ := hP.sub (ws' := []) [] rfl
      have hDc : va_D (fun q => z0 ≤ q) [] := (hD.to hAz).pick (ws' := []) [] (by decide) rfl
      have hFc := AnA (ws := [((a 200), f_m a g)]) hS.1
      refine va_calli (va_runV (As := []) (rest := [.ref (a 200)]) ⟨hx, hb, hml, hown, ht⟩ (k_J0_length_8abf5_v2 l D g z0 _ a) (cwV 0 ht (gV w_492 w_402 w_403 w_394 w_401) rfl rfl rfl (by decide +kernel) (le2 rfl rfl)) ⟨PP.blind, vk_recv (i := 0) (hZ.m hAz).2.2.1 (by decide) hS, PP.mk' hK hZ hz hAz hS hPc hDc⟩ rfl rfl hl.1 rfl (lv_room (Nat.le_of_ble_eq_true rfl)) dX15_march_19 (le2 rfl rfl)) hS (fun q _ h => hFc q h) hFc (fun r u t H locs ht1 hvm hw hB hz1 hk1 hS => ?_)
      obtain ⟨rfl, hw⟩ := hw
      have hP := ro1 hP hk1
      refine lv_bipush (v := 24) hx hb dX15_march_22 (by decide) ?_
      refine lv_icmp_ne (tgt := 31) hx hb dX15_march_24 (by decide) (fun c_35 => ?_) (fun c_35 => ?_)
      · refine lv_iconst (v := 0) hx hb dX15_march_31 (by decide) ?_
        have hPc : va_P D vwCl [((a 200), f_m a g)] _ := hP.sub (ws' := [((a 200), f_m a g)]) [0] rfl
        have hDc : va_D (fun q => z0 ≤ q) [((a 200), f_m a g)] := (hD.to hAz).pick (ws' := [((a 200), f_m a g)]) [0] (by decide) rfl
        have hFc := va_free (wc := [((a 200), f_m a g)]) hD hS hA [0] rfl
        refine va_calli (va_runV (As := [.int 0]) (rest := []) ⟨hx, hb, hml, hown, ht⟩ (k_X15_isWrong_v1 l D g z0 _ a) (cwV 1 ht (gV w_376 w_378 w_379 w_334 w_377) rfl rfl rfl (by decide +kernel) (le2 rfl rfl)) ⟨PP.blind, va_recv hK.1 hP (ci := 21) (q0 := 0) rfl rfl, PP.mk' hK hZ hz hAz hS hPc hDc⟩ rfl rfl hl.1 rfl (lv_room (Nat.le_of_ble_eq_true rfl)) dX15_march_32 (le2 rfl rfl)) hS (fun q _ h => hFc q h) hFc (fun r u t H locs ht1 hvm hw hB hz1 hk1 hS => ?_)
        obtain ⟨rfl, hw⟩ := hw
        obtain ⟨hP1, hD1⟩ := hB
        rw [ht1] at hP1
        obtain ⟨hP, hD⟩ := va_join (wr := []) (w1 := [((a 200), f_m a g)]) hP hD [0] [] rfl rfl (by decide) (by decide) hk1 hFc hP1 hD1
        have hP : va_P D vwCl [((a 200), f_m a g)] H := hP
        have hD : va_D (va_A [((a 200), f_m a g)] s.heap.size) [((a 200), f_m a g)] := hD
        refine lv_if_eq (tgt := 40) hx hb dX15_march_35 (by decide) (fun c_36 => ?_) (fun c_36 => ?_)
        · refine va_new (ci := 1) (fs := [.null, .int 0, .int 0, .int 0]) (C := RJ4) (T := TJ4) (N := 4) hx hb ht in_J4 tyJ4 tyJ4_ok hown (ht _ w_1292) (ht _ w_1293) (ht _ w_1294) hK.1 hP hD hS hA rfl (fun j hj => by rcases (show j = 0 ∨ j = 1 ∨ j = 2 ∨ j = 3 by omega) with rfl | rfl | rfl | rfl <;> rfl) (Nat.le_of_ble_eq_true rfl) (Nat.le_of_ble_eq_true rfl) dX15_march_40 (fun q_37 H hP hD hS => ?_)
          have hP : va_P D vwCl [((a 200), f_m a g), (q_37, .inr (1, [.null, .int 0, .int 0, .int 0]))] H := hP
          have hD : va_D (va_A [((a 200), f_m a g)] s.heap.size) [((a 200), f_m a g), (q_37, .inr (1, [.null, .int 0, .int 0, .int 0]))] := hD
          refine lv_dup hx hb dX15_march_43 rfl ?_
          have hPc : va_P D vwCl [(q_37, .inr (1, [.null, .int 0, .int 0, .int 0]))] _ := hP.sub (ws' := [(q_37, .inr (1, [.null, .int 0, .int 0, .int 0]))]) [1] rfl
          have hDc : va_D (fun q => z0 ≤ q) [(q_37, .inr (1, [.null, .int 0, .int 0, .int 0]))] := (hD.to hAz).pick (ws' := [(q_37, .inr (1, [.null, .int 0, .int 0, .int 0]))]) [1] (by decide) rfl
          have hFc := va_free (wc := [(q_37, .inr (1, [.null, .int 0, .int 0, .int 0]))]) hD hS hA [1] rfl
          refine va_callv (va_runI (As := []) (rest := [.ref q_37]) ⟨hx, hb, hml, hown, ht⟩ (k_J4_init_da8c8 l D g z0 _ a q_37) (cwI 0 ht (gI w_1305) rfl rfl rfl (ht _ w_1294) (ht _ w_1304) (ht _ w_1306) rfl (by decide +kernel) (le2 rfl rfl)) ⟨PP.blind, PP.mk' hK hZ hz hAz hS hPc hDc⟩ rfl rfl hl.1 rfl (lv_room (Nat.le_of_ble_eq_true rfl)) dX15_march_44 (le2 rfl rfl)) hS (fun q _ h => hFc q h) hFc (fun u t H locs ht1 hvm hw hB hz1 hk1 hS => ?_)
          obtain ⟨q_38, hP1, hD1⟩ := hB
          rw [ht1] at hP1
          obtain ⟨hP, hD⟩ := va_join (wr := [((a 200), f_m a g)]) (w1 := [(q_37, .inr (1, [.ref q_38, .int 0, .int 0, .int 0])), (q_38, .inl (g 5, 16, .inl (fun _ => 0)))]) hP hD [1] [0] rfl rfl (by decide) (by decide) hk1 hFc hP1 hD1
          have hP : va_P D vwCl [((a 200), f_m a g), (q_37, .inr (1, [.ref q_38, .int 0, .int 0, .int 0])), (q_38, .inl (g 5, 16, .inl (fun _ => 0)))] H := hP
          have hD : va_D (va_A [((a 200), f_m a g)] s.heap.size) [((a 200), f_m a g), (q_37, .inr (1, [.ref q_38, .int 0, .int 0, .int 0])), (q_38, .inl (g 5, 16, .inl (fun _ => 0)))] := hD
          refine lv_aload_n hx hb dX15_march_47 rfl (lv_at hl 0 rfl) ?_
          refine lv_dup_x1 hx hb dX15_march_48 rfl rfl ?_
          refine va_get (D := D) (ci := 21) (v := .ref (g 200)) (C := RX15) (T := TX15) (N := 29) hx hb ht in_X15 hown hK.1 hP 0 rfl rfl 20 (by decide) (ht _ w_491) (fun _ h9 => h9) rfl dX15_march_49 ?_
          have hPc : va_P D vwCl [(q_37, .inr (1, [.ref q_38, .int 0, .int 0, .int 0])), (q_38, .inl (g 5, 16, .inl (fun _ => 0)))] _ := hP.sub (ws' := [(q_37, .inr (1, [.ref q_38, .int 0, .int 0, .int 0])), (q_38, .inl (g 5, 16, .inl (fun _ => 0)))]) [1, 2] rfl
          have hDc : va_D (fun q => z0 ≤ q) [(q_37, .inr (1, [.ref q_38, .int 0, .int 0, .int 0])), (q_38, .inl (g 5, 16, .inl (fun _ => 0)))] := (hD.to hAz).pick (ws' := [(q_37, .inr (1, [.ref q_38, .int 0, .int 0, .int 0])), (q_38, .inl (g 5, 16, .inl (fun _ => 0)))]) [1, 2] (by decide) rfl
          have hFc := va_free (wc := [(q_37, .inr (1, [.ref q_38, .int 0, .int 0, .int 0])), (q_38, .inl (g 5, 16, .inl (fun _ => 0)))]) hD hS hA [1, 2] rfl
          refine va_callr (va_runV (As := [.ref (g 200)]) (rest := [.ref (a 200)]) ⟨hx, hb, hml, hown, ht⟩ (k_J4_append_15ec4 l D g z0 _ a q_37 q_38 (fun _ => 0) (fun _ => by decide)) (cwV 1 ht (gV w_1338 w_1340 w_1341 w_1294 w_1339) rfl rfl rfl (by decide +kernel) (le2 rfl rfl)) ⟨PP.blind, va_recv hK.1 hP (ci := 1) (q0 := 1) rfl rfl, PP.mk' hK hZ hz hAz hS hPc hDc⟩ rfl rfl hl.1 rfl (lv_room (Nat.le_of_ble_eq_true rfl)) dX15_march_52 (le2 rfl rfl)) hS (fun q _ h => hFc q h) hFc (fun u ra t H locs ht1 hvm hw hB hz1 hk1 hS => ?_)
          obtain ⟨hr9, hP1, hD1⟩ := hB
          rw [ht1] at hP1
          obtain ⟨hP, hD⟩ := va_join (wr := [((a 200), f_m a g)]) (w1 := [(q_37, .inr (1, [.ref q_38, .int 0, .int 0, .int 0])), (q_38, .inl (g 5, 16, .inl (fun _ => 0)))]) hP hD [1, 2] [0] rfl rfl (by decide) (by decide) hk1 hFc hP1 hD1
          subst hr9
          have hP : va_P D vwCl [((a 200), f_m a g), (q_37, .inr (1, [.ref q_38, .int 0, .int 0, .int 0])), (q_38, .inl (g 5, 16, .inl (fun _ => 0)))] H := hP
          have hD : va_D (va_A [((a 200), f_m a g)] s.heap.size) [((a 200), f_m a g), (q_37, .inr (1, [.ref q_38, .int 0, .int 0, .int 0])), (q_38, .inl (g 5, 16, .inl (fun _ => 0)))] := hD
          refine lv_iload_n hx hb dX15_march_55 rfl (lv_at hl 1 rfl) ?_
          have hPc : va_P D vwCl [(q_37, .inr (1, [.ref q_38, .int 0, .int 0, .int 0])), (q_38, .inl (g 5, 16, .inl (fun _ => 0)))] _ := hP.sub (ws' := [(q_37, .inr (1, [.ref q_38, .int 0, .int 0, .int 0])), (q_38, .inl (g 5, 16, .inl (fun _ => 0)))]) [1, 2] rfl
          have hDc : va_D (fun q => z0 ≤ q) [(q_37, .inr (1, [.ref q_38, .int 0, .int 0, .int 0])), (q_38, .inl (g 5, 16, .inl (fun _ => 0)))] := (hD.to hAz).pick (ws' := [(q_37, .inr (1, [.ref q_38, .int 0, .int 0, .int 0])), (q_38, .inl (g 5, 16, .inl (fun _ => 0)))]) [1, 2] (by decide) rfl
          have hFc := va_free (wc := [(q_37, .inr (1, [.ref q_38, .int 0, .int 0, .int 0])), (q_38, .inl (g 5, 16, .inl (fun _ => 0)))]) hD hS hA [1, 2] rfl
          refine va_callr (va_runV (As := [.int p0]) (rest := [.ref (a 200)]) ⟨hx, hb, hml, hown, ht⟩ (k_J4_append_cf468 l D g z0 _ a q_37 q_38 (fun _ => 0) (fun _ => by decide) p0 (by rw [c_33]; decide) (by rw [c_33]; decide) hc_p0) (cwV 1 ht (gV w_1354 w_1356 w_1357 w_1294 w_1355) rfl rfl rfl (by decide +kernel) (le2 rfl rfl)) ⟨PP.blind, va_recv hK.1 hP (ci := 1) (q0 := 1) rfl rfl, PP.mk' hK hZ hz hAz hS hPc hDc⟩ rfl rfl hl.1 rfl (lv_room (Nat.le_of_ble_eq_true rfl)) dX15_march_56 (le2 rfl rfl)) hS (fun q _ h => hFc q h) hFc (fun u ra t H locs ht1 hvm hw hB hz1 hk1 hS => ?_)
          obtain ⟨hr9, hP1, hD1⟩ := hB
          rw [ht1] at hP1
          obtain ⟨hP, hD⟩ := va_join (wr := [((a 200), f_m a g)]) (w1 := [(q_37, .inr (1, [.ref q_38, .int 0, .int 0, .int 1])), (q_38, .inl (g 5, 16, .inl (upd (fun _ => 0) (0 : Int32).toNatClampNeg (vp_nar .byte p0.toInt8.toInt32))))]) hP hD [1, 2] [0] rfl rfl (by decide) (by decide) hk1 hFc hP1 hD1
          subst hr9
          have hP : va_P D vwCl [((a 200), f_m a g), (q_37, .inr (1, [.ref q_38, .int 0, .int 0, .int 1])), (q_38, .inl (g 5, 16, .inl (upd (fun _ => 0) (0 : Int32).toNatClampNeg (vp_nar .byte p0.toInt8.toInt32))))] H := hP
          have hD : va_D (va_A [((a 200), f_m a g)] s.heap.size) [((a 200), f_m a g), (q_37, .inr (1, [.ref q_38, .int 0, .int 0, .int 1])), (q_38, .inl (g 5, 16, .inl (upd (fun _ => 0) (0 : Int32).toNatClampNeg (vp_nar .byte p0.toInt8.toInt32))))] := hD
          have hPc : va_P D vwCl [(q_37, .inr (1, [.ref q_38, .int 0, .int 0, .int 1])), (q_38, .inl (g 5, 16, .inl (upd (fun _ => 0) (0 : Int32).toNatClampNeg (vp_nar .byte p0.toInt8.toInt32))))] _ := hP.sub (ws' := [(q_37, .inr (1, [.ref q_38, .int 0, .int 0, .int 1])), (q_38, .inl (g 5, 16, .inl (upd (fun _ => 0) (0 : Int32).toNatClampNeg (vp_nar .byte p0.toInt8.toInt32))))]) [1, 2] rfl
          have hDc : va_D (fun q => z0 ≤ q) [(q_37, .inr (1, [.ref q_38, .int 0, .int 0, .int 1])), (q_38, .inl (g 5, 16, .inl (upd (fun _ => 0) (0 : Int32).toNatClampNeg (vp_nar .byte p0.toInt8.toInt32))))] := (hD.to hAz).pick (ws' := [(q_37, .inr (1, [.ref q_38, .int 0, .int 0, .int 1])), (q_38, .inl (g 5, 16, .inl (upd (fun _ => 0) (0 : Int32).toNatClampNeg (vp_nar .byte p0.toInt8.toInt32))))]) [1, 2] (by decide) rfl
          have hFc := va_free (wc := [(q_37, .inr (1, [.ref q_38, .int 0, .int 0, .int 1])), (q_38, .inl (g 5, 16, .inl (upd (fun _ => 0) (0 : Int32).toNatClampNeg (vp_nar .byte p0.toInt8.toInt32))))]) hD hS hA [1, 2] rfl
          refine va_callr (va_runV (As := []) (rest := [.ref (a 200)]) ⟨hx, hb, hml, hown, ht⟩ (k_J4_toString_0e30d l D g z0 _ a q_37 q_38 (upd (fun _ => 0) (0 : Int32).toNatClampNeg (vp_nar .byte p0.toInt8.toInt32)) (fit_upd (fun _ => by decide))) (cwV 0 ht (gV w_1392 w_1394 w_1395 w_1294 w_1393) rfl rfl rfl (by decide +kernel) (le2 rfl rfl)) ⟨PP.blind, va_recv hK.1 hP (ci := 1) (q0 := 1) rfl rfl, PP.mk' hK hZ hz hAz hS hPc hDc⟩ rfl rfl hl.1 rfl (lv_room (Nat.le_of_ble_eq_true rfl)) dX15_march_59 (le2 rfl rfl)) hS (fun q _ h => hFc q h) hFc (fun u ra t H locs ht1 hvm hw hB hz1 hk1 hS => ?_)
          obtain ⟨q_39, q_40, hr9, hP1, hD1⟩ := hB
          rw [ht1] at hP1
          obtain ⟨hP, hD⟩ := va_join (wr := [((a 200), f_m a g)]) (w1 := [(q_37, .inr (1, [.ref q_38, .int 0, .int 0, .int 1])), (q_39, .inr (0, [.ref q_40, .int 0, .int 0, .int 0])), (q_38, .inl (g 5, 16, .inl (upd (fun _ => 0) (0 : Int32).toNatClampNeg (vp_nar .byte p0.toInt8.toInt32)))), (q_40, .inl (g 5, 1, .inl (va_cpy (upd (fun _ => 0) (0 : Int32).toNatClampNeg (vp_nar .byte p0.toInt8.toInt32)) (fun _ => 0) (0 : Int32).toNatClampNeg (0 : Int32).toNatClampNeg (1 : Int32).toNatClampNeg)))]) hP hD [1, 2] [0] rfl rfl (by decide) (by decide) hk1 hFc hP1 hD1
          subst hr9
          have hP : va_P D vwCl [((a 200), f_m a g), (q_37, .inr (1, [.ref q_38, .int 0, .int 0, .int 1])), (q_39, .inr (0, [.ref q_40, .int 0, .int 0, .int 0])), (q_38, .inl (g 5, 16, .inl (upd (fun _ => 0) (0 : Int32).toNatClampNeg (vp_nar .byte p0.toInt8.toInt32)))), (q_40, .inl (g 5, 1, .inl (va_cpy (upd (fun _ => 0) (0 : Int32).toNatClampNeg (vp_nar .byte p0.toInt8.toInt32)) (fun _ => 0) (0 : Int32).toNatClampNeg (0 : Int32).toNatClampNeg (1 : Int32).toNatClampNeg)))] H := hP
          have hD : va_D (va_A [((a 200), f_m a g)] s.heap.size) [((a 200), f_m a g), (q_37, .inr (1, [.ref q_38, .int 0, .int 0, .int 1])), (q_39, .inr (0, [.ref q_40, .int 0, .int 0, .int 0])), (q_38, .inl (g 5, 16, .inl (upd (fun _ => 0) (0 : Int32).toNatClampNeg (vp_nar .byte p0.toInt8.toInt32)))), (q_40, .inl (g 5, 1, .inl (va_cpy (upd (fun _ => 0) (0 : Int32).toNatClampNeg (vp_nar .byte p0.toInt8.toInt32)) (fun _ => 0) (0 : Int32).toNatClampNeg (0 : Int32).toNatClampNeg (1 : Int32).toNatClampNeg)))] := hD
          refine va_put (D := D) (ci := 21) (v := .ref q_39) (ty := .object "java/lang/String") (C := RX15) (T := TX15) (N := 29) hx hb ht in_X15 tyX15 tyX15_ok nmX15 hown hK.1 hP hD hS 0 rfl rfl 20 (by decide) (ht _ w_491) (fun _ h9 => h9) rfl (by decide +kernel) rfl rfl (Nat.le_of_ble_eq_true rfl) dX15_march_62 (fun H locs hP hD hS => ?_)
          have hP : va_P D vwCl [((a 200), .inr (21, [.int 0, .ref (a 201), .ref (a 202), .ref (a 203), .ref (a 204), .ref (a 205), .ref (a 206), .int 0, .int 0, .int 0, .int 0, .ref (a 208), .ref (a 209), .ref (a 210), .ref (a 211), .ref (a 212), .int 4, .int 12, .int (-1), .int 0, .ref q_39, .ref (a 213), .int 0, .int 97, .ref (a 214), .ref (a 215), .ref (a 207), .null, .int 0])), (q_37, .inr (1, [.ref q_38, .int 0, .int 0, .int 1])), (q_39, .inr (0, [.ref q_40, .int 0, .int 0, .int 0])), (q_38, .inl (g 5, 16, .inl (upd (fun _ => 0) (0 : Int32).toNatClampNeg (vp_nar .byte p0.toInt8.toInt32)))), (q_40, .inl (g 5, 1, .inl (va_cpy (upd (fun _ => 0) (0 : Int32).toNatClampNeg (vp_nar .byte p0.toInt8.toInt32)) (fun _ => 0) (0 : Int32).toNatClampNeg (0 : Int32).toNatClampNeg (1 : Int32).toNatClampNeg)))] H := hP
          have hD : va_D (va_A [((a 200), f_m a g)] s.heap.size) [((a 200), .inr (21, [.int 0, .ref (a 201), .ref (a 202), .ref (a 203), .ref (a 204), .ref (a 205), .ref (a 206), .int 0, .int 0, .int 0, .int 0, .ref (a 208), .ref (a 209), .ref (a 210), .ref (a 211), .ref (a 212), .int 4, .int 12, .int (-1), .int 0, .ref q_39, .ref (a 213), .int 0, .int 97, .ref (a 214), .ref (a 215), .ref (a 207), .null, .int 0])), (q_37, .inr (1, [.ref q_38, .int 0, .int 0, .int 1])), (q_39, .inr (0, [.ref q_40, .int 0, .int 0, .int 0])), (q_38, .inl (g 5, 16, .inl (upd (fun _ => 0) (0 : Int32).toNatClampNeg (vp_nar .byte p0.toInt8.toInt32)))), (q_40, .inl (g 5, 1, .inl (va_cpy (upd (fun _ => 0) (0 : Int32).toNatClampNeg (vp_nar .byte p0.toInt8.toInt32)) (fun _ => 0) (0 : Int32).toNatClampNeg (0 : Int32).toNatClampNeg (1 : Int32).toNatClampNeg)))] := hD
          refine lv_aload_n hx hb dX15_march_65 rfl (lv_at hl 0 rfl) ?_
          refine va_get (D := D) (ci := 21) (v := .ref q_39) (C := RX15) (T := TX15) (N := 29) hx hb ht in_X15 hown hK.1 hP 0 rfl rfl 20 (by decide) (ht _ w_491) (fun _ h9 => h9) rfl dX15_march_66 ?_
          have hPc : va_P D vwCl [(q_39, .inr (0, [.ref q_40, .int 0, .int 0, .int 0])), (q_40, .inl (g 5, 1, .inl (va_cpy (upd (fun _ => 0) (0 : Int32).toNatClampNeg (vp_nar .byte p0.toInt8.toInt32)) (fun _ => 0) (0 : Int32).toNatClampNeg (0 : Int32).toNatClampNeg (1 : Int32).toNatClampNeg)))] _ := hP.sub (ws' := [(q_39, .inr (0, [.ref q_40, .int 0, .int 0, .int 0])), (q_40, .inl (g 5, 1, .inl (va_cpy (upd (fun _ => 0) (0 : Int32).toNatClampNeg (vp_nar .byte p0.toInt8.toInt32)) (fun _ => 0) (0 : Int32).toNatClampNeg (0 : Int32).toNatClampNeg (1 : Int32).toNatClampNeg)))]) [2, 4] rfl
          have hDc : va_D (fun q => z0 ≤ q) [(q_39, .inr (0, [.ref q_40, .int 0, .int 0, .int 0])), (q_40, .inl (g 5, 1, .inl (va_cpy (upd (fun _ => 0) (0 : Int32).toNatClampNeg (vp_nar .byte p0.toInt8.toInt32)) (fun _ => 0) (0 : Int32).toNatClampNeg (0 : Int32).toNatClampNeg (1 : Int32).toNatClampNeg)))] := (hD.to hAz).pick (ws' := [(q_39, .inr (0, [.ref q_40, .int 0, .int 0, .int 0])), (q_40, .inl (g 5, 1, .inl (va_cpy (upd (fun _ => 0) (0 : Int32).toNatClampNeg (vp_nar .byte p0.toInt8.toInt32)) (fun _ => 0) (0 : Int32).toNatClampNeg (0 : Int32).toNatClampNeg (1 : Int32).toNatClampNeg)))]) [2, 4] (by decide) rfl
          have hFc := AnA (ws := [((a 200), f_m a g)]) hS.1
          refine va_calli (va_runV (As := []) (rest := []) ⟨hx, hb, hml, hown, ht⟩ (k_J0_length_8abf5_v6 l D g z0 _ a q_39 q_39 q_40 (va_cpy (upd (fun _ => 0) (0 : Int32).toNatClampNeg (vp_nar .byte p0.toInt8.toInt32)) (fun _ => 0) (0 : Int32).toNatClampNeg (0 : Int32).toNatClampNeg (1 : Int32).toNatClampNeg) (fit_cpy (fit_upd (fun _ => by decide)) (fun _ => by decide))) (cwV 0 ht (gV w_492 w_402 w_403 w_394 w_401) rfl rfl rfl (by decide +kernel) (le2 rfl rfl)) ⟨PP.blind, va_recv hK.1 hP (ci := 0) (q0 := 2) rfl rfl, PP.mk' hK hZ hz hAz hS hPc hDc⟩ rfl rfl hl.1 rfl (lv_room (Nat.le_of_ble_eq_true rfl)) dX15_march_69 (le2 rfl rfl)) hS (fun q _ h => hFc q h) hFc (fun r u t H locs ht1 hvm hw hB hz1 hk1 hS => ?_)
          obtain ⟨rfl, hw⟩ := hw
          have hP := ro1 hP hk1
          have hP9 := hP.sub (ws' := [((a 200), .inr (21, [.int 0, .ref (a 201), .ref (a 202), .ref (a 203), .ref (a 204), .ref (a 205), .ref (a 206), .int 0, .int 0, .int 0, .int 0, .ref (a 208), .ref (a 209), .ref (a 210), .ref (a 211), .ref (a 212), .int 4, .int 12, .int (-1), .int 0, .ref q_39, .ref (a 213), .int 0, .int 97, .ref (a 214), .ref (a 215), .ref (a 207), .null, .int 0]))]) [0] rfl
          have hD9 := hD.sub (ws' := [((a 200), .inr (21, [.int 0, .ref (a 201), .ref (a 202), .ref (a 203), .ref (a 204), .ref (a 205), .ref (a 206), .int 0, .int 0, .int 0, .int 0, .ref (a 208), .ref (a 209), .ref (a 210), .ref (a 211), .ref (a 212), .int 4, .int 12, .int (-1), .int 0, .ref q_39, .ref (a 213), .int 0, .int 97, .ref (a 214), .ref (a 215), .ref (a 207), .null, .int 0]))]) [0] (by decide) rfl
          refine W.widen (k := 4) (n := 25) (Nat.le_of_ble_eq_true rfl) (Nat.le_of_ble_eq_true rfl) ?_
          exact W.iret (v := 1) hx hb hr (fun t ht9 hW9 => ⟨⟨1, (0, q_39), rfl, (Or.inr (Or.inr (Or.inl ⟨rfl, rfl, c_33⟩))), ⟨(by rw [ht9]; exact hP9), hD9⟩⟩, hS.F ht9⟩) hS.2.2 dX15_march_72 hlocks
        · exact absurd c_36 (by decide)
      · exact absurd c_35 (by decide)
    · exact absurd c_34 (by decide)
  · obtain ⟨rfl, hw⟩ := hw
    have c_41 := hw
    have hP := ro1 hP hk1
    refine lv_if_ge (tgt := 15) hx hb dX15_march_8 (by decide) (fun c_42 => ?_) (fun c_42 => ?_)
    · refine lv_aload_n hx hb dX15_march_15 rfl (lv_at hl 0 rfl) ?_
      refine va_get (D := D) (ci := 21) (v := .ref (g 200)) (C := RX15) (T := TX15) (N := 29) hx hb ht in_X15 hown hK.1 hP 0 rfl rfl 20 (by decide) (ht _ w_491) (fun _ h9 => h9) rfl dX15_march_16 ?_
      have hPc : va_P D vwCl [] _ := hP.sub (ws' := []) [] rfl
      have hDc : va_D (fun q => z0 ≤ q) [] := (hD.to hAz).pick (ws' := []) [] (by decide) rfl
      have hFc := AnA (ws := [((a 200), f_m a g)]) hS.1
      refine va_calli (va_runV (As := []) (rest := [.ref (a 200)]) ⟨hx, hb, hml, hown, ht⟩ (k_J0_length_8abf5_v2 l D g z0 _ a) (cwV 0 ht (gV w_492 w_402 w_403 w_394 w_401) rfl rfl rfl (by decide +kernel) (le2 rfl rfl)) ⟨PP.blind, vk_recv (i := 0) (hZ.m hAz).2.2.1 (by decide) hS, PP.mk' hK hZ hz hAz hS hPc hDc⟩ rfl rfl hl.1 rfl (lv_room (Nat.le_of_ble_eq_true rfl)) dX15_march_19 (le2 rfl rfl)) hS (fun q _ h => hFc q h) hFc (fun r u t H locs ht1 hvm hw hB hz1 hk1 hS => ?_)
      obtain ⟨rfl, hw⟩ := hw
      have hP := ro1 hP hk1
      refine lv_bipush (v := 24) hx hb dX15_march_22 (by decide) ?_
      refine lv_icmp_ne (tgt := 31) hx hb dX15_march_24 (by decide) (fun c_43 => ?_) (fun c_43 => ?_)
      · refine lv_iconst (v := 0) hx hb dX15_march_31 (by decide) ?_
        have hPc : va_P D vwCl [((a 200), f_m a g)] _ := hP.sub (ws' := [((a 200), f_m a g)]) [0] rfl
        have hDc : va_D (fun q => z0 ≤ q) [((a 200), f_m a g)] := (hD.to hAz).pick (ws' := [((a 200), f_m a g)]) [0] (by decide) rfl
        have hFc := va_free (wc := [((a 200), f_m a g)]) hD hS hA [0] rfl
        refine va_calli (va_runV (As := [.int 0]) (rest := []) ⟨hx, hb, hml, hown, ht⟩ (k_X15_isWrong_v1 l D g z0 _ a) (cwV 1 ht (gV w_376 w_378 w_379 w_334 w_377) rfl rfl rfl (by decide +kernel) (le2 rfl rfl)) ⟨PP.blind, va_recv hK.1 hP (ci := 21) (q0 := 0) rfl rfl, PP.mk' hK hZ hz hAz hS hPc hDc⟩ rfl rfl hl.1 rfl (lv_room (Nat.le_of_ble_eq_true rfl)) dX15_march_32 (le2 rfl rfl)) hS (fun q _ h => hFc q h) hFc (fun r u t H locs ht1 hvm hw hB hz1 hk1 hS => ?_)
        obtain ⟨rfl, hw⟩ := hw
        obtain ⟨hP1, hD1⟩ := hB
        rw [ht1] at hP1
        obtain ⟨hP, hD⟩ := va_join (wr := []) (w1 := [((a 200), f_m a g)]) hP hD [0] [] rfl rfl (by decide) (by decide) hk1 hFc hP1 hD1
        have hP : va_P D vwCl [((a 200), f_m a g)] H := hP
        have hD : va_D (va_A [((a 200), f_m a g)] s.heap.size) [((a 200), f_m a g)] := hD
        refine lv_if_eq (tgt := 40) hx hb dX15_march_35 (by decide) (fun c_44 => ?_) (fun c_44 => ?_)
        · refine va_new (ci := 1) (fs := [.null, .int 0, .int 0, .int 0]) (C := RJ4) (T := TJ4) (N := 4) hx hb ht in_J4 tyJ4 tyJ4_ok hown (ht _ w_1292) (ht _ w_1293) (ht _ w_1294) hK.1 hP hD hS hA rfl (fun j hj => by rcases (show j = 0 ∨ j = 1 ∨ j = 2 ∨ j = 3 by omega) with rfl | rfl | rfl | rfl <;> rfl) (Nat.le_of_ble_eq_true rfl) (Nat.le_of_ble_eq_true rfl) dX15_march_40 (fun q_45 H hP hD hS => ?_)
          have hP : va_P D vwCl [((a 200), f_m a g), (q_45, .inr (1, [.null, .int 0, .int 0, .int 0]))] H := hP
          have hD : va_D (va_A [((a 200), f_m a g)] s.heap.size) [((a 200), f_m a g), (q_45, .inr (1, [.null, .int 0, .int 0, .int 0]))] := hD
          refine lv_dup hx hb dX15_march_43 rfl ?_
          have hPc : va_P D vwCl [(q_45, .inr (1, [.null, .int 0, .int 0, .int 0]))] _ := hP.sub (ws' := [(q_45, .inr (1, [.null, .int 0, .int 0, .int 0]))]) [1] rfl
          have hDc : va_D (fun q => z0 ≤ q) [(q_45, .inr (1, [.null, .int 0, .int 0, .int 0]))] := (hD.to hAz).pick (ws' := [(q_45, .inr (1, [.null, .int 0, .int 0, .int 0]))]) [1] (by decide) rfl
          have hFc := va_free (wc := [(q_45, .inr (1, [.null, .int 0, .int 0, .int 0]))]) hD hS hA [1] rfl
          refine va_callv (va_runI (As := []) (rest := [.ref q_45]) ⟨hx, hb, hml, hown, ht⟩ (k_J4_init_da8c8 l D g z0 _ a q_45) (cwI 0 ht (gI w_1305) rfl rfl rfl (ht _ w_1294) (ht _ w_1304) (ht _ w_1306) rfl (by decide +kernel) (le2 rfl rfl)) ⟨PP.blind, PP.mk' hK hZ hz hAz hS hPc hDc⟩ rfl rfl hl.1 rfl (lv_room (Nat.le_of_ble_eq_true rfl)) dX15_march_44 (le2 rfl rfl)) hS (fun q _ h => hFc q h) hFc (fun u t H locs ht1 hvm hw hB hz1 hk1 hS => ?_)
          obtain ⟨q_46, hP1, hD1⟩ := hB
          rw [ht1] at hP1
          obtain ⟨hP, hD⟩ := va_join (wr := [((a 200), f_m a g)]) (w1 := [(q_45, .inr (1, [.ref q_46, .int 0, .int 0, .int 0])), (q_46, .inl (g 5, 16, .inl (fun _ => 0)))]) hP hD [1] [0] rfl rfl (by decide) (by decide) hk1 hFc hP1 hD1
          have hP : va_P D vwCl [((a 200), f_m a g), (q_45, .inr (1, [.ref q_46, .int 0, .int 0, .int 0])), (q_46, .inl (g 5, 16, .inl (fun _ => 0)))] H := hP
          have hD : va_D (va_A [((a 200), f_m a g)] s.heap.size) [((a 200), f_m a g), (q_45, .inr (1, [.ref q_46, .int 0, .int 0, .int 0])), (q_46, .inl (g 5, 16, .inl (fun _ => 0)))] := hD
          refine lv_aload_n hx hb dX15_march_47 rfl (lv_at hl 0 rfl) ?_
          refine lv_dup_x1 hx hb dX15_march_48 rfl rfl ?_
          refine va_get (D := D) (ci := 21) (v := .ref (g 200)) (C := RX15) (T := TX15) (N := 29) hx hb ht in_X15 hown hK.1 hP 0 rfl rfl 20 (by decide) (ht _ w_491) (fun _ h9 => h9) rfl dX15_march_49 ?_
          have hPc : va_P D vwCl [(q_45, .inr (1, [.ref q_46, .int 0, .int 0, .int 0])), (q_46, .inl (g 5, 16, .inl (fun _ => 0)))] _ := hP.sub (ws' := [(q_45, .inr (1, [.ref q_46, .int 0, .int 0, .int 0])), (q_46, .inl (g 5, 16, .inl (fun _ => 0)))]) [1, 2] rfl
          have hDc : va_D (fun q => z0 ≤ q) [(q_45, .inr (1, [.ref q_46, .int 0, .int 0, .int 0])), (q_46, .inl (g 5, 16, .inl (fun _ => 0)))] := (hD.to hAz).pick (ws' := [(q_45, .inr (1, [.ref q_46, .int 0, .int 0, .int 0])), (q_46, .inl (g 5, 16, .inl (fun _ => 0)))]) [1, 2] (by decide) rfl
          have hFc := va_free (wc := [(q_45, .inr (1, [.ref q_46, .int 0, .int 0, .int 0])), (q_46, .inl (g 5, 16, .inl (fun _ => 0)))]) hD hS hA [1, 2] rfl
          refine va_callr (va_runV (As := [.ref (g 200)]) (rest := [.ref (a 200)]) ⟨hx, hb, hml, hown, ht⟩ (k_J4_append_15ec4 l D g z0 _ a q_45 q_46 (fun _ => 0) (fun _ => by decide)) (cwV 1 ht (gV w_1338 w_1340 w_1341 w_1294 w_1339) rfl rfl rfl (by decide +kernel) (le2 rfl rfl)) ⟨PP.blind, va_recv hK.1 hP (ci := 1) (q0 := 1) rfl rfl, PP.mk' hK hZ hz hAz hS hPc hDc⟩ rfl rfl hl.1 rfl (lv_room (Nat.le_of_ble_eq_true rfl)) dX15_march_52 (le2 rfl rfl)) hS (fun q _ h => hFc q h) hFc (fun u ra t H locs ht1 hvm hw hB hz1 hk1 hS => ?_)
          obtain ⟨hr9, hP1, hD1⟩ := hB
          rw [ht1] at hP1
          obtain ⟨hP, hD⟩ := va_join (wr := [((a 200), f_m a g)]) (w1 := [(q_45, .inr (1, [.ref q_46, .int 0, .int 0, .int 0])), (q_46, .inl (g 5, 16, .inl (fun _ => 0)))]) hP hD [1, 2] [0] rfl rfl (by decide) (by decide) hk1 hFc hP1 hD1
          subst hr9
          have hP : va_P D vwCl [((a 200), f_m a g), (q_45, .inr (1, [.ref q_46, .int 0, .int 0, .int 0])), (q_46, .inl (g 5, 16, .inl (fun _ => 0)))] H := hP
          have hD : va_D (va_A [((a 200), f_m a g)] s.heap.size) [((a 200), f_m a g), (q_45, .inr (1, [.ref q_46, .int 0, .int 0, .int 0])), (q_46, .inl (g 5, 16, .inl (fun _ => 0)))] := hD
          refine lv_iload_n hx hb dX15_march_55 rfl (lv_at hl 1 rfl) ?_
          have hPc : va_P D vwCl [(q_45, .inr (1, [.ref q_46, .int 0, .int 0, .int 0])), (q_46, .inl (g 5, 16, .inl (fun _ => 0)))] _ := hP.sub (ws' := [(q_45, .inr (1, [.ref q_46, .int 0, .int 0, .int 0])), (q_46, .inl (g 5, 16, .inl (fun _ => 0)))]) [1, 2] rfl
          have hDc : va_D (fun q => z0 ≤ q) [(q_45, .inr (1, [.ref q_46, .int 0, .int 0, .int 0])), (q_46, .inl (g 5, 16, .inl (fun _ => 0)))] := (hD.to hAz).pick (ws' := [(q_45, .inr (1, [.ref q_46, .int 0, .int 0, .int 0])), (q_46, .inl (g 5, 16, .inl (fun _ => 0)))]) [1, 2] (by decide) rfl
          have hFc := va_free (wc := [(q_45, .inr (1, [.ref q_46, .int 0, .int 0, .int 0])), (q_46, .inl (g 5, 16, .inl (fun _ => 0)))]) hD hS hA [1, 2] rfl
          refine va_callr (va_runV (As := [.int p0]) (rest := [.ref (a 200)]) ⟨hx, hb, hml, hown, ht⟩ (k_J4_append_cf468 l D g z0 _ a q_45 q_46 (fun _ => 0) (fun _ => by decide) p0 (by rw [c_41]; decide) (by rw [c_41]; decide) hc_p0) (cwV 1 ht (gV w_1354 w_1356 w_1357 w_1294 w_1355) rfl rfl rfl (by decide +kernel) (le2 rfl rfl)) ⟨PP.blind, va_recv hK.1 hP (ci := 1) (q0 := 1) rfl rfl, PP.mk' hK hZ hz hAz hS hPc hDc⟩ rfl rfl hl.1 rfl (lv_room (Nat.le_of_ble_eq_true rfl)) dX15_march_56 (le2 rfl rfl)) hS (fun q _ h => hFc q h) hFc (fun u ra t H locs ht1 hvm hw hB hz1 hk1 hS => ?_)
          obtain ⟨hr9, hP1, hD1⟩ := hB
          rw [ht1] at hP1
          obtain ⟨hP, hD⟩ := va_join (wr := [((a 200), f_m a g)]) (w1 := [(q_45, .inr (1, [.ref q_46, .int 0, .int 0, .int 1])), (q_46, .inl (g 5, 16, .inl (upd (fun _ => 0) (0 : Int32).toNatClampNeg (vp_nar .byte p0.toInt8.toInt32))))]) hP hD [1, 2] [0] rfl rfl (by decide) (by decide) hk1 hFc hP1 hD1
          subst hr9
          have hP : va_P D vwCl [((a 200), f_m a g), (q_45, .inr (1, [.ref q_46, .int 0, .int 0, .int 1])), (q_46, .inl (g 5, 16, .inl (upd (fun _ => 0) (0 : Int32).toNatClampNeg (vp_nar .byte p0.toInt8.toInt32))))] H := hP
          have hD : va_D (va_A [((a 200), f_m a g)] s.heap.size) [((a 200), f_m a g), (q_45, .inr (1, [.ref q_46, .int 0, .int 0, .int 1])), (q_46, .inl (g 5, 16, .inl (upd (fun _ => 0) (0 : Int32).toNatClampNeg (vp_nar .byte p0.toInt8.toInt32))))] := hD
          have hPc : va_P D vwCl [(q_45, .inr (1, [.ref q_46, .int 0, .int 0, .int 1])), (q_46, .inl (g 5, 16, .inl (upd (fun _ => 0) (0 : Int32).toNatClampNeg (vp_nar .byte p0.toInt8.toInt32))))] _ := hP.sub (ws' := [(q_45, .inr (1, [.ref q_46, .int 0, .int 0, .int 1])), (q_46, .inl (g 5, 16, .inl (upd (fun _ => 0) (0 : Int32).toNatClampNeg (vp_nar .byte p0.toInt8.toInt32))))]) [1, 2] rfl
          have hDc : va_D (fun q => z0 ≤ q) [(q_45, .inr (1, [.ref q_46, .int 0, .int 0, .int 1])), (q_46, .inl (g 5, 16, .inl (upd (fun _ => 0) (0 : Int32).toNatClampNeg (vp_nar .byte p0.toInt8.toInt32))))] := (hD.to hAz).pick (ws' := [(q_45, .inr (1, [.ref q_46, .int 0, .int 0, .int 1])), (q_46, .inl (g 5, 16, .inl (upd (fun _ => 0) (0 : Int32).toNatClampNeg (vp_nar .byte p0.toInt8.toInt32))))]) [1, 2] (by decide) rfl
          have hFc := va_free (wc := [(q_45, .inr (1, [.ref q_46, .int 0, .int 0, .int 1])), (q_46, .inl (g 5, 16, .inl (upd (fun _ => 0) (0 : Int32).toNatClampNeg (vp_nar .byte p0.toInt8.toInt32))))]) hD hS hA [1, 2] rfl
          refine va_callr (va_runV (As := []) (rest := [.ref (a 200)]) ⟨hx, hb, hml, hown, ht⟩ (k_J4_toString_0e30d l D g z0 _ a q_45 q_46 (upd (fun _ => 0) (0 : Int32).toNatClampNeg (vp_nar .byte p0.toInt8.toInt32)) (fit_upd (fun _ => by decide))) (cwV 0 ht (gV w_1392 w_1394 w_1395 w_1294 w_1393) rfl rfl rfl (by decide +kernel) (le2 rfl rfl)) ⟨PP.blind, va_recv hK.1 hP (ci := 1) (q0 := 1) rfl rfl, PP.mk' hK hZ hz hAz hS hPc hDc⟩ rfl rfl hl.1 rfl (lv_room (Nat.le_of_ble_eq_true rfl)) dX15_march_59 (le2 rfl rfl)) hS (fun q _ h => hFc q h) hFc (fun u ra t H locs ht1 hvm hw hB hz1 hk1 hS => ?_)
          obtain ⟨q_47, q_48, hr9, hP1, hD1⟩ := hB
          rw [ht1] at hP1
          obtain ⟨hP, hD⟩ := va_join (wr := [((a 200), f_m a g)]) (w1 := [(q_45, .inr (1, [.ref q_46, .int 0, .int 0, .int 1])), (q_47, .inr (0, [.ref q_48, .int 0, .int 0, .int 0])), (q_46, .inl (g 5, 16, .inl (upd (fun _ => 0) (0 : Int32).toNatClampNeg (vp_nar .byte p0.toInt8.toInt32)))), (q_48, .inl (g 5, 1, .inl (va_cpy (upd (fun _ => 0) (0 : Int32).toNatClampNeg (vp_nar .byte p0.toInt8.toInt32)) (fun _ => 0) (0 : Int32).toNatClampNeg (0 : Int32).toNatClampNeg (1 : Int32).toNatClampNeg)))]) hP hD [1, 2] [0] rfl rfl (by decide) (by decide) hk1 hFc hP1 hD1
          subst hr9
          have hP : va_P D vwCl [((a 200), f_m a g), (q_45, .inr (1, [.ref q_46, .int 0, .int 0, .int 1])), (q_47, .inr (0, [.ref q_48, .int 0, .int 0, .int 0])), (q_46, .inl (g 5, 16, .inl (upd (fun _ => 0) (0 : Int32).toNatClampNeg (vp_nar .byte p0.toInt8.toInt32)))), (q_48, .inl (g 5, 1, .inl (va_cpy (upd (fun _ => 0) (0 : Int32).toNatClampNeg (vp_nar .byte p0.toInt8.toInt32)) (fun _ => 0) (0 : Int32).toNatClampNeg (0 : Int32).toNatClampNeg (1 : Int32).toNatClampNeg)))] H := hP
          have hD : va_D (va_A [((a 200), f_m a g)] s.heap.size) [((a 200), f_m a g), (q_45, .inr (1, [.ref q_46, .int 0, .int 0, .int 1])), (q_47, .inr (0, [.ref q_48, .int 0, .int 0, .int 0])), (q_46, .inl (g 5, 16, .inl (upd (fun _ => 0) (0 : Int32).toNatClampNeg (vp_nar .byte p0.toInt8.toInt32)))), (q_48, .inl (g 5, 1, .inl (va_cpy (upd (fun _ => 0) (0 : Int32).toNatClampNeg (vp_nar .byte p0.toInt8.toInt32)) (fun _ => 0) (0 : Int32).toNatClampNeg (0 : Int32).toNatClampNeg (1 : Int32).toNatClampNeg)))] := hD
          refine va_put (D := D) (ci := 21) (v := .ref q_47) (ty := .object "java/lang/String") (C := RX15) (T := TX15) (N := 29) hx hb ht in_X15 tyX15 tyX15_ok nmX15 hown hK.1 hP hD hS 0 rfl rfl 20 (by decide) (ht _ w_491) (fun _ h9 => h9) rfl (by decide +kernel) rfl rfl (Nat.le_of_ble_eq_true rfl) dX15_march_62 (fun H locs hP hD hS => ?_)
          have hP : va_P D vwCl [((a 200), .inr (21, [.int 0, .ref (a 201), .ref (a 202), .ref (a 203), .ref (a 204), .ref (a 205), .ref (a 206), .int 0, .int 0, .int 0, .int 0, .ref (a 208), .ref (a 209), .ref (a 210), .ref (a 211), .ref (a 212), .int 4, .int 12, .int (-1), .int 0, .ref q_47, .ref (a 213), .int 0, .int 97, .ref (a 214), .ref (a 215), .ref (a 207), .null, .int 0])), (q_45, .inr (1, [.ref q_46, .int 0, .int 0, .int 1])), (q_47, .inr (0, [.ref q_48, .int 0, .int 0, .int 0])), (q_46, .inl (g 5, 16, .inl (upd (fun _ => 0) (0 : Int32).toNatClampNeg (vp_nar .byte p0.toInt8.toInt32)))), (q_48, .inl (g 5, 1, .inl (va_cpy (upd (fun _ => 0) (0 : Int32).toNatClampNeg (vp_nar .byte p0.toInt8.toInt32)) (fun _ => 0) (0 : Int32).toNatClampNeg (0 : Int32).toNatClampNeg (1 : Int32).toNatClampNeg)))] H := hP
          have hD : va_D (va_A [((a 200), f_m a g)] s.heap.size) [((a 200), .inr (21, [.int 0, .ref (a 201), .ref (a 202), .ref (a 203), .ref (a 204), .ref (a 205), .ref (a 206), .int 0, .int 0, .int 0, .int 0, .ref (a 208), .ref (a 209), .ref (a 210), .ref (a 211), .ref (a 212), .int 4, .int 12, .int (-1), .int 0, .ref q_47, .ref (a 213), .int 0, .int 97, .ref (a 214), .ref (a 215), .ref (a 207), .null, .int 0])), (q_45, .inr (1, [.ref q_46, .int 0, .int 0, .int 1])), (q_47, .inr (0, [.ref q_48, .int 0, .int 0, .int 0])), (q_46, .inl (g 5, 16, .inl (upd (fun _ => 0) (0 : Int32).toNatClampNeg (vp_nar .byte p0.toInt8.toInt32)))), (q_48, .inl (g 5, 1, .inl (va_cpy (upd (fun _ => 0) (0 : Int32).toNatClampNeg (vp_nar .byte p0.toInt8.toInt32)) (fun _ => 0) (0 : Int32).toNatClampNeg (0 : Int32).toNatClampNeg (1 : Int32).toNatClampNeg)))] := hD
          refine lv_aload_n hx hb dX15_march_65 rfl (lv_at hl 0 rfl) ?_
          refine va_get (D := D) (ci := 21) (v := .ref q_47) (C := RX15) (T := TX15) (N := 29) hx hb ht in_X15 hown hK.1 hP 0 rfl rfl 20 (by decide) (ht _ w_491) (fun _ h9 => h9) rfl dX15_march_66 ?_
          have hPc : va_P D vwCl [(q_47, .inr (0, [.ref q_48, .int 0, .int 0, .int 0])), (q_48, .inl (g 5, 1, .inl (va_cpy (upd (fun _ => 0) (0 : Int32).toNatClampNeg (vp_nar .byte p0.toInt8.toInt32)) (fun _ => 0) (0 : Int32).toNatClampNeg (0 : Int32).toNatClampNeg (1 : Int32).toNatClampNeg)))] _ := hP.sub (ws' := [(q_47, .inr (0, [.ref q_48, .int 0, .int 0, .int 0])), (q_48, .inl (g 5, 1, .inl (va_cpy (upd (fun _ => 0) (0 : Int32).toNatClampNeg (vp_nar .byte p0.toInt8.toInt32)) (fun _ => 0) (0 : Int32).toNatClampNeg (0 : Int32).toNatClampNeg (1 : Int32).toNatClampNeg)))]) [2, 4] rfl
          have hDc : va_D (fun q => z0 ≤ q) [(q_47, .inr (0, [.ref q_48, .int 0, .int 0, .int 0])), (q_48, .inl (g 5, 1, .inl (va_cpy (upd (fun _ => 0) (0 : Int32).toNatClampNeg (vp_nar .byte p0.toInt8.toInt32)) (fun _ => 0) (0 : Int32).toNatClampNeg (0 : Int32).toNatClampNeg (1 : Int32).toNatClampNeg)))] := (hD.to hAz).pick (ws' := [(q_47, .inr (0, [.ref q_48, .int 0, .int 0, .int 0])), (q_48, .inl (g 5, 1, .inl (va_cpy (upd (fun _ => 0) (0 : Int32).toNatClampNeg (vp_nar .byte p0.toInt8.toInt32)) (fun _ => 0) (0 : Int32).toNatClampNeg (0 : Int32).toNatClampNeg (1 : Int32).toNatClampNeg)))]) [2, 4] (by decide) rfl
          have hFc := AnA (ws := [((a 200), f_m a g)]) hS.1
          refine va_calli (va_runV (As := []) (rest := []) ⟨hx, hb, hml, hown, ht⟩ (k_J0_length_8abf5_v6 l D g z0 _ a q_47 q_47 q_48 (va_cpy (upd (fun _ => 0) (0 : Int32).toNatClampNeg (vp_nar .byte p0.toInt8.toInt32)) (fun _ => 0) (0 : Int32).toNatClampNeg (0 : Int32).toNatClampNeg (1 : Int32).toNatClampNeg) (fit_cpy (fit_upd (fun _ => by decide)) (fun _ => by decide))) (cwV 0 ht (gV w_492 w_402 w_403 w_394 w_401) rfl rfl rfl (by decide +kernel) (le2 rfl rfl)) ⟨PP.blind, va_recv hK.1 hP (ci := 0) (q0 := 2) rfl rfl, PP.mk' hK hZ hz hAz hS hPc hDc⟩ rfl rfl hl.1 rfl (lv_room (Nat.le_of_ble_eq_true rfl)) dX15_march_69 (le2 rfl rfl)) hS (fun q _ h => hFc q h) hFc (fun r u t H locs ht1 hvm hw hB hz1 hk1 hS => ?_)
          obtain ⟨rfl, hw⟩ := hw
          have hP := ro1 hP hk1
          have hP9 := hP.sub (ws' := [((a 200), .inr (21, [.int 0, .ref (a 201), .ref (a 202), .ref (a 203), .ref (a 204), .ref (a 205), .ref (a 206), .int 0, .int 0, .int 0, .int 0, .ref (a 208), .ref (a 209), .ref (a 210), .ref (a 211), .ref (a 212), .int 4, .int 12, .int (-1), .int 0, .ref q_47, .ref (a 213), .int 0, .int 97, .ref (a 214), .ref (a 215), .ref (a 207), .null, .int 0]))]) [0] rfl
          have hD9 := hD.sub (ws' := [((a 200), .inr (21, [.int 0, .ref (a 201), .ref (a 202), .ref (a 203), .ref (a 204), .ref (a 205), .ref (a 206), .int 0, .int 0, .int 0, .int 0, .ref (a 208), .ref (a 209), .ref (a 210), .ref (a 211), .ref (a 212), .int 4, .int 12, .int (-1), .int 0, .ref q_47, .ref (a 213), .int 0, .int 97, .ref (a 214), .ref (a 215), .ref (a 207), .null, .int 0]))]) [0] (by decide) rfl
          refine W.widen (k := 4) (n := 25) (Nat.le_of_ble_eq_true rfl) (Nat.le_of_ble_eq_true rfl) ?_
          exact W.iret (v := 1) hx hb hr (fun t ht9 hW9 => ⟨⟨1, (0, q_47), rfl, (Or.inr (Or.inr (Or.inr (Or.inl ⟨rfl, rfl, c_41⟩)))), ⟨(by rw [ht9]; exact hP9), hD9⟩⟩, hS.F ht9⟩) hS.2.2 dX15_march_72 hlocks
        · exact absurd c_44 (by decide)
      · exact absurd c_43 (by decide)
    · exact absurd c_42 (by decide)
  · obtain ⟨rfl, hw⟩ := hw
    have c_49 := hw
    have hP := ro1 hP hk1
    refine lv_if_ge (tgt := 15) hx hb dX15_march_8 (by decide) (fun c_50 => ?_) (fun c_50 => ?_)
    · refine lv_aload_n hx hb dX15_march_15 rfl (lv_at hl 0 rfl) ?_
      refine va_get (D := D) (ci := 21) (v := .ref (g 200)) (C := RX15) (T := TX15) (N := 29) hx hb ht in_X15 hown hK.1 hP 0 rfl rfl 20 (by decide) (ht _ w_491) (fun _ h9 => h9) rfl dX15_march_16 ?_
      have hPc : va_P D vwCl [] _ := hP.sub (ws' := []) [] rfl
      have hDc : va_D (fun q => z0 ≤ q) [] := (hD.to hAz).pick (ws' := []) [] (by decide) rfl
      have hFc := AnA (ws := [((a 200), f_m a g)]) hS.1
      refine va_calli (va_runV (As := []) (rest := [.ref (a 200)]) ⟨hx, hb, hml, hown, ht⟩ (k_J0_length_8abf5_v2 l D g z0 _ a) (cwV 0 ht (gV w_492 w_402 w_403 w_394 w_401) rfl rfl rfl (by decide +kernel) (le2 rfl rfl)) ⟨PP.blind, vk_recv (i := 0) (hZ.m hAz).2.2.1 (by decide) hS, PP.mk' hK hZ hz hAz hS hPc hDc⟩ rfl rfl hl.1 rfl (lv_room (Nat.le_of_ble_eq_true rfl)) dX15_march_19 (le2 rfl rfl)) hS (fun q _ h => hFc q h) hFc (fun r u t H locs ht1 hvm hw hB hz1 hk1 hS => ?_)
      obtain ⟨rfl, hw⟩ := hw
      have hP := ro1 hP hk1
      refine lv_bipush (v := 24) hx hb dX15_march_22 (by decide) ?_
      refine lv_icmp_ne (tgt := 31) hx hb dX15_march_24 (by decide) (fun c_51 => ?_) (fun c_51 => ?_)
      · refine lv_iconst (v := 0) hx hb dX15_march_31 (by decide) ?_
        have hPc : va_P D vwCl [((a 200), f_m a g)] _ := hP.sub (ws' := [((a 200), f_m a g)]) [0] rfl
        have hDc : va_D (fun q => z0 ≤ q) [((a 200), f_m a g)] := (hD.to hAz).pick (ws' := [((a 200), f_m a g)]) [0] (by decide) rfl
        have hFc := va_free (wc := [((a 200), f_m a g)]) hD hS hA [0] rfl
        refine va_calli (va_runV (As := [.int 0]) (rest := []) ⟨hx, hb, hml, hown, ht⟩ (k_X15_isWrong_v1 l D g z0 _ a) (cwV 1 ht (gV w_376 w_378 w_379 w_334 w_377) rfl rfl rfl (by decide +kernel) (le2 rfl rfl)) ⟨PP.blind, va_recv hK.1 hP (ci := 21) (q0 := 0) rfl rfl, PP.mk' hK hZ hz hAz hS hPc hDc⟩ rfl rfl hl.1 rfl (lv_room (Nat.le_of_ble_eq_true rfl)) dX15_march_32 (le2 rfl rfl)) hS (fun q _ h => hFc q h) hFc (fun r u t H locs ht1 hvm hw hB hz1 hk1 hS => ?_)
        obtain ⟨rfl, hw⟩ := hw
        obtain ⟨hP1, hD1⟩ := hB
        rw [ht1] at hP1
        obtain ⟨hP, hD⟩ := va_join (wr := []) (w1 := [((a 200), f_m a g)]) hP hD [0] [] rfl rfl (by decide) (by decide) hk1 hFc hP1 hD1
        have hP : va_P D vwCl [((a 200), f_m a g)] H := hP
        have hD : va_D (va_A [((a 200), f_m a g)] s.heap.size) [((a 200), f_m a g)] := hD
        refine lv_if_eq (tgt := 40) hx hb dX15_march_35 (by decide) (fun c_52 => ?_) (fun c_52 => ?_)
        · refine va_new (ci := 1) (fs := [.null, .int 0, .int 0, .int 0]) (C := RJ4) (T := TJ4) (N := 4) hx hb ht in_J4 tyJ4 tyJ4_ok hown (ht _ w_1292) (ht _ w_1293) (ht _ w_1294) hK.1 hP hD hS hA rfl (fun j hj => by rcases (show j = 0 ∨ j = 1 ∨ j = 2 ∨ j = 3 by omega) with rfl | rfl | rfl | rfl <;> rfl) (Nat.le_of_ble_eq_true rfl) (Nat.le_of_ble_eq_true rfl) dX15_march_40 (fun q_53 H hP hD hS => ?_)
          have hP : va_P D vwCl [((a 200), f_m a g), (q_53, .inr (1, [.null, .int 0, .int 0, .int 0]))] H := hP
          have hD : va_D (va_A [((a 200), f_m a g)] s.heap.size) [((a 200), f_m a g), (q_53, .inr (1, [.null, .int 0, .int 0, .int 0]))] := hD
          refine lv_dup hx hb dX15_march_43 rfl ?_
          have hPc : va_P D vwCl [(q_53, .inr (1, [.null, .int 0, .int 0, .int 0]))] _ := hP.sub (ws' := [(q_53, .inr (1, [.null, .int 0, .int 0, .int 0]))]) [1] rfl
          have hDc : va_D (fun q => z0 ≤ q) [(q_53, .inr (1, [.null, .int 0, .int 0, .int 0]))] := (hD.to hAz).pick (ws' := [(q_53, .inr (1, [.null, .int 0, .int 0, .int 0]))]) [1] (by decide) rfl
          have hFc := va_free (wc := [(q_53, .inr (1, [.null, .int 0, .int 0, .int 0]))]) hD hS hA [1] rfl
          refine va_callv (va_runI (As := []) (rest := [.ref q_53]) ⟨hx, hb, hml, hown, ht⟩ (k_J4_init_da8c8 l D g z0 _ a q_53) (cwI 0 ht (gI w_1305) rfl rfl rfl (ht _ w_1294) (ht _ w_1304) (ht _ w_1306) rfl (by decide +kernel) (le2 rfl rfl)) ⟨PP.blind, PP.mk' hK hZ hz hAz hS hPc hDc⟩ rfl rfl hl.1 rfl (lv_room (Nat.le_of_ble_eq_true rfl)) dX15_march_44 (le2 rfl rfl)) hS (fun q _ h => hFc q h) hFc (fun u t H locs ht1 hvm hw hB hz1 hk1 hS => ?_)
          obtain ⟨q_54, hP1, hD1⟩ := hB
          rw [ht1] at hP1
          obtain ⟨hP, hD⟩ := va_join (wr := [((a 200), f_m a g)]) (w1 := [(q_53, .inr (1, [.ref q_54, .int 0, .int 0, .int 0])), (q_54, .inl (g 5, 16, .inl (fun _ => 0)))]) hP hD [1] [0] rfl rfl (by decide) (by decide) hk1 hFc hP1 hD1
          have hP : va_P D vwCl [((a 200), f_m a g), (q_53, .inr (1, [.ref q_54, .int 0, .int 0, .int 0])), (q_54, .inl (g 5, 16, .inl (fun _ => 0)))] H := hP
          have hD : va_D (va_A [((a 200), f_m a g)] s.heap.size) [((a 200), f_m a g), (q_53, .inr (1, [.ref q_54, .int 0, .int 0, .int 0])), (q_54, .inl (g 5, 16, .inl (fun _ => 0)))] := hD
          refine lv_aload_n hx hb dX15_march_47 rfl (lv_at hl 0 rfl) ?_
          refine lv_dup_x1 hx hb dX15_march_48 rfl rfl ?_
          refine va_get (D := D) (ci := 21) (v := .ref (g 200)) (C := RX15) (T := TX15) (N := 29) hx hb ht in_X15 hown hK.1 hP 0 rfl rfl 20 (by decide) (ht _ w_491) (fun _ h9 => h9) rfl dX15_march_49 ?_
          have hPc : va_P D vwCl [(q_53, .inr (1, [.ref q_54, .int 0, .int 0, .int 0])), (q_54, .inl (g 5, 16, .inl (fun _ => 0)))] _ := hP.sub (ws' := [(q_53, .inr (1, [.ref q_54, .int 0, .int 0, .int 0])), (q_54, .inl (g 5, 16, .inl (fun _ => 0)))]) [1, 2] rfl
          have hDc : va_D (fun q => z0 ≤ q) [(q_53, .inr (1, [.ref q_54, .int 0, .int 0, .int 0])), (q_54, .inl (g 5, 16, .inl (fun _ => 0)))] := (hD.to hAz).pick (ws' := [(q_53, .inr (1, [.ref q_54, .int 0, .int 0, .int 0])), (q_54, .inl (g 5, 16, .inl (fun _ => 0)))]) [1, 2] (by decide) rfl
          have hFc := va_free (wc := [(q_53, .inr (1, [.ref q_54, .int 0, .int 0, .int 0])), (q_54, .inl (g 5, 16, .inl (fun _ => 0)))]) hD hS hA [1, 2] rfl
          refine va_callr (va_runV (As := [.ref (g 200)]) (rest := [.ref (a 200)]) ⟨hx, hb, hml, hown, ht⟩ (k_J4_append_15ec4 l D g z0 _ a q_53 q_54 (fun _ => 0) (fun _ => by decide)) (cwV 1 ht (gV w_1338 w_1340 w_1341 w_1294 w_1339) rfl rfl rfl (by decide +kernel) (le2 rfl rfl)) ⟨PP.blind, va_recv hK.1 hP (ci := 1) (q0 := 1) rfl rfl, PP.mk' hK hZ hz hAz hS hPc hDc⟩ rfl rfl hl.1 rfl (lv_room (Nat.le_of_ble_eq_true rfl)) dX15_march_52 (le2 rfl rfl)) hS (fun q _ h => hFc q h) hFc (fun u ra t H locs ht1 hvm hw hB hz1 hk1 hS => ?_)
          obtain ⟨hr9, hP1, hD1⟩ := hB
          rw [ht1] at hP1
          obtain ⟨hP, hD⟩ := va_join (wr := [((a 200), f_m a g)]) (w1 := [(q_53, .inr (1, [.ref q_54, .int 0, .int 0, .int 0])), (q_54, .inl (g 5, 16, .inl (fun _ => 0)))]) hP hD [1, 2] [0] rfl rfl (by decide) (by decide) hk1 hFc hP1 hD1
          subst hr9
          have hP : va_P D vwCl [((a 200), f_m a g), (q_53, .inr (1, [.ref q_54, .int 0, .int 0, .int 0])), (q_54, .inl (g 5, 16, .inl (fun _ => 0)))] H := hP
          have hD : va_D (va_A [((a 200), f_m a g)] s.heap.size) [((a 200), f_m a g), (q_53, .inr (1, [.ref q_54, .int 0, .int 0, .int 0])), (q_54, .inl (g 5, 16, .inl (fun _ => 0)))] := hD
          refine lv_iload_n hx hb dX15_march_55 rfl (lv_at hl 1 rfl) ?_
          have hPc : va_P D vwCl [(q_53, .inr (1, [.ref q_54, .int 0, .int 0, .int 0])), (q_54, .inl (g 5, 16, .inl (fun _ => 0)))] _ := hP.sub (ws' := [(q_53, .inr (1, [.ref q_54, .int 0, .int 0, .int 0])), (q_54, .inl (g 5, 16, .inl (fun _ => 0)))]) [1, 2] rfl
          have hDc : va_D (fun q => z0 ≤ q) [(q_53, .inr (1, [.ref q_54, .int 0, .int 0, .int 0])), (q_54, .inl (g 5, 16, .inl (fun _ => 0)))] := (hD.to hAz).pick (ws' := [(q_53, .inr (1, [.ref q_54, .int 0, .int 0, .int 0])), (q_54, .inl (g 5, 16, .inl (fun _ => 0)))]) [1, 2] (by decide) rfl
          have hFc := va_free (wc := [(q_53, .inr (1, [.ref q_54, .int 0, .int 0, .int 0])), (q_54, .inl (g 5, 16, .inl (fun _ => 0)))]) hD hS hA [1, 2] rfl
          refine va_callr (va_runV (As := [.int p0]) (rest := [.ref (a 200)]) ⟨hx, hb, hml, hown, ht⟩ (k_J4_append_cf468 l D g z0 _ a q_53 q_54 (fun _ => 0) (fun _ => by decide) p0 (by rw [c_49]; decide) (by rw [c_49]; decide) hc_p0) (cwV 1 ht (gV w_1354 w_1356 w_1357 w_1294 w_1355) rfl rfl rfl (by decide +kernel) (le2 rfl rfl)) ⟨PP.blind, va_recv hK.1 hP (ci := 1) (q0 := 1) rfl rfl, PP.mk' hK hZ hz hAz hS hPc hDc⟩ rfl rfl hl.1 rfl (lv_room (Nat.le_of_ble_eq_true rfl)) dX15_march_56 (le2 rfl rfl)) hS (fun q _ h => hFc q h) hFc (fun u ra t H locs ht1 hvm hw hB hz1 hk1 hS => ?_)
          obtain ⟨hr9, hP1, hD1⟩ := hB
          rw [ht1] at hP1
          obtain ⟨hP, hD⟩ := va_join (wr := [((a 200), f_m a g)]) (w1 := [(q_53, .inr (1, [.ref q_54, .int 0, .int 0, .int 1])), (q_54, .inl (g 5, 16, .inl (upd (fun _ => 0) (0 : Int32).toNatClampNeg (vp_nar .byte p0.toInt8.toInt32))))]) hP hD [1, 2] [0] rfl rfl (by decide) (by decide) hk1 hFc hP1 hD1
          subst hr9
          have hP : va_P D vwCl [((a 200), f_m a g), (q_53, .inr (1, [.ref q_54, .int 0, .int 0, .int 1])), (q_54, .inl (g 5, 16, .inl (upd (fun _ => 0) (0 : Int32).toNatClampNeg (vp_nar .byte p0.toInt8.toInt32))))] H := hP
          have hD : va_D (va_A [((a 200), f_m a g)] s.heap.size) [((a 200), f_m a g), (q_53, .inr (1, [.ref q_54, .int 0, .int 0, .int 1])), (q_54, .inl (g 5, 16, .inl (upd (fun _ => 0) (0 : Int32).toNatClampNeg (vp_nar .byte p0.toInt8.toInt32))))] := hD
          have hPc : va_P D vwCl [(q_53, .inr (1, [.ref q_54, .int 0, .int 0, .int 1])), (q_54, .inl (g 5, 16, .inl (upd (fun _ => 0) (0 : Int32).toNatClampNeg (vp_nar .byte p0.toInt8.toInt32))))] _ := hP.sub (ws' := [(q_53, .inr (1, [.ref q_54, .int 0, .int 0, .int 1])), (q_54, .inl (g 5, 16, .inl (upd (fun _ => 0) (0 : Int32).toNatClampNeg (vp_nar .byte p0.toInt8.toInt32))))]) [1, 2] rfl
          have hDc : va_D (fun q => z0 ≤ q) [(q_53, .inr (1, [.ref q_54, .int 0, .int 0, .int 1])), (q_54, .inl (g 5, 16, .inl (upd (fun _ => 0) (0 : Int32).toNatClampNeg (vp_nar .byte p0.toInt8.toInt32))))] := (hD.to hAz).pick (ws' := [(q_53, .inr (1, [.ref q_54, .int 0, .int 0, .int 1])), (q_54, .inl (g 5, 16, .inl (upd (fun _ => 0) (0 : Int32).toNatClampNeg (vp_nar .byte p0.toInt8.toInt32))))]) [1, 2] (by decide) rfl
          have hFc := va_free (wc := [(q_53, .inr (1, [.ref q_54, .int 0, .int 0, .int 1])), (q_54, .inl (g 5, 16, .inl (upd (fun _ => 0) (0 : Int32).toNatClampNeg (vp_nar .byte p0.toInt8.toInt32))))]) hD hS hA [1, 2] rfl
          refine va_callr (va_runV (As := []) (rest := [.ref (a 200)]) ⟨hx, hb, hml, hown, ht⟩ (k_J4_toString_0e30d l D g z0 _ a q_53 q_54 (upd (fun _ => 0) (0 : Int32).toNatClampNeg (vp_nar .byte p0.toInt8.toInt32)) (fit_upd (fun _ => by decide))) (cwV 0 ht (gV w_1392 w_1394 w_1395 w_1294 w_1393) rfl rfl rfl (by decide +kernel) (le2 rfl rfl)) ⟨PP.blind, va_recv hK.1 hP (ci := 1) (q0 := 1) rfl rfl, PP.mk' hK hZ hz hAz hS hPc hDc⟩ rfl rfl hl.1 rfl (lv_room (Nat.le_of_ble_eq_true rfl)) dX15_march_59 (le2 rfl rfl)) hS (fun q _ h => hFc q h) hFc (fun u ra t H locs ht1 hvm hw hB hz1 hk1 hS => ?_)
          obtain ⟨q_55, q_56, hr9, hP1, hD1⟩ := hB
          rw [ht1] at hP1
          obtain ⟨hP, hD⟩ := va_join (wr := [((a 200), f_m a g)]) (w1 := [(q_53, .inr (1, [.ref q_54, .int 0, .int 0, .int 1])), (q_55, .inr (0, [.ref q_56, .int 0, .int 0, .int 0])), (q_54, .inl (g 5, 16, .inl (upd (fun _ => 0) (0 : Int32).toNatClampNeg (vp_nar .byte p0.toInt8.toInt32)))), (q_56, .inl (g 5, 1, .inl (va_cpy (upd (fun _ => 0) (0 : Int32).toNatClampNeg (vp_nar .byte p0.toInt8.toInt32)) (fun _ => 0) (0 : Int32).toNatClampNeg (0 : Int32).toNatClampNeg (1 : Int32).toNatClampNeg)))]) hP hD [1, 2] [0] rfl rfl (by decide) (by decide) hk1 hFc hP1 hD1
          subst hr9
          have hP : va_P D vwCl [((a 200), f_m a g), (q_53, .inr (1, [.ref q_54, .int 0, .int 0, .int 1])), (q_55, .inr (0, [.ref q_56, .int 0, .int 0, .int 0])), (q_54, .inl (g 5, 16, .inl (upd (fun _ => 0) (0 : Int32).toNatClampNeg (vp_nar .byte p0.toInt8.toInt32)))), (q_56, .inl (g 5, 1, .inl (va_cpy (upd (fun _ => 0) (0 : Int32).toNatClampNeg (vp_nar .byte p0.toInt8.toInt32)) (fun _ => 0) (0 : Int32).toNatClampNeg (0 : Int32).toNatClampNeg (1 : Int32).toNatClampNeg)))] H := hP
          have hD : va_D (va_A [((a 200), f_m a g)] s.heap.size) [((a 200), f_m a g), (q_53, .inr (1, [.ref q_54, .int 0, .int 0, .int 1])), (q_55, .inr (0, [.ref q_56, .int 0, .int 0, .int 0])), (q_54, .inl (g 5, 16, .inl (upd (fun _ => 0) (0 : Int32).toNatClampNeg (vp_nar .byte p0.toInt8.toInt32)))), (q_56, .inl (g 5, 1, .inl (va_cpy (upd (fun _ => 0) (0 : Int32).toNatClampNeg (vp_nar .byte p0.toInt8.toInt32)) (fun _ => 0) (0 : Int32).toNatClampNeg (0 : Int32).toNatClampNeg (1 : Int32).toNatClampNeg)))] := hD
          refine va_put (D := D) (ci := 21) (v := .ref q_55) (ty := .object "java/lang/String") (C := RX15) (T := TX15) (N := 29) hx hb ht in_X15 tyX15 tyX15_ok nmX15 hown hK.1 hP hD hS 0 rfl rfl 20 (by decide) (ht _ w_491) (fun _ h9 => h9) rfl (by decide +kernel) rfl rfl (Nat.le_of_ble_eq_true rfl) dX15_march_62 (fun H locs hP hD hS => ?_)
          have hP : va_P D vwCl [((a 200), .inr (21, [.int 0, .ref (a 201), .ref (a 202), .ref (a 203), .ref (a 204), .ref (a 205), .ref (a 206), .int 0, .int 0, .int 0, .int 0, .ref (a 208), .ref (a 209), .ref (a 210), .ref (a 211), .ref (a 212), .int 4, .int 12, .int (-1), .int 0, .ref q_55, .ref (a 213), .int 0, .int 97, .ref (a 214), .ref (a 215), .ref (a 207), .null, .int 0])), (q_53, .inr (1, [.ref q_54, .int 0, .int 0, .int 1])), (q_55, .inr (0, [.ref q_56, .int 0, .int 0, .int 0])), (q_54, .inl (g 5, 16, .inl (upd (fun _ => 0) (0 : Int32).toNatClampNeg (vp_nar .byte p0.toInt8.toInt32)))), (q_56, .inl (g 5, 1, .inl (va_cpy (upd (fun _ => 0) (0 : Int32).toNatClampNeg (vp_nar .byte p0.toInt8.toInt32)) (fun _ => 0) (0 : Int32).toNatClampNeg (0 : Int32).toNatClampNeg (1 : Int32).toNatClampNeg)))] H := hP
          have hD : va_D (va_A [((a 200), f_m a g)] s.heap.size) [((a 200), .inr (21, [.int 0, .ref (a 201), .ref (a 202), .ref (a 203), .ref (a 204), .ref (a 205), .ref (a 206), .int 0, .int 0, .int 0, .int 0, .ref (a 208), .ref (a 209), .ref (a 210), .ref (a 211), .ref (a 212), .int 4, .int 12, .int (-1), .int 0, .ref q_55, .ref (a 213), .int 0, .int 97, .ref (a 214), .ref (a 215), .ref (a 207), .null, .int 0])), (q_53, .inr (1, [.ref q_54, .int 0, .int 0, .int 1])), (q_55, .inr (0, [.ref q_56, .int 0, .int 0, .int 0])), (q_54, .inl (g 5, 16, .inl (upd (fun _ => 0) (0 : Int32).toNatClampNeg (vp_nar .byte p0.toInt8.toInt32)))), (q_56, .inl (g 5, 1, .inl (va_cpy (upd (fun _ => 0) (0 : Int32).toNatClampNeg (vp_nar .byte p0.toInt8.toInt32)) (fun _ => 0) (0 : Int32).toNatClampNeg (0 : Int32).toNatClampNeg (1 : Int32).toNatClampNeg)))] := hD
          refine lv_aload_n hx hb dX15_march_65 rfl (lv_at hl 0 rfl) ?_
          refine va_get (D := D) (ci := 21) (v := .ref q_55) (C := RX15) (T := TX15) (N := 29) hx hb ht in_X15 hown hK.1 hP 0 rfl rfl 20 (by decide) (ht _ w_491) (fun _ h9 => h9) rfl dX15_march_66 ?_
          have hPc : va_P D vwCl [(q_55, .inr (0, [.ref q_56, .int 0, .int 0, .int 0])), (q_56, .inl (g 5, 1, .inl (va_cpy (upd (fun _ => 0) (0 : Int32).toNatClampNeg (vp_nar .byte p0.toInt8.toInt32)) (fun _ => 0) (0 : Int32).toNatClampNeg (0 : Int32).toNatClampNeg (1 : Int32).toNatClampNeg)))] _ := hP.sub (ws' := [(q_55, .inr (0, [.ref q_56, .int 0, .int 0, .int 0])), (q_56, .inl (g 5, 1, .inl (va_cpy (upd (fun _ => 0) (0 : Int32).toNatClampNeg (vp_nar .byte p0.toInt8.toInt32)) (fun _ => 0) (0 : Int32).toNatClampNeg (0 : Int32).toNatClampNeg (1 : Int32).toNatClampNeg)))]) [2, 4] rfl
          have hDc : va_D (fun q => z0 ≤ q) [(q_55, .inr (0, [.ref q_56, .int 0, .int 0, .int 0])), (q_56, .inl (g 5, 1, .inl (va_cpy (upd (fun _ => 0) (0 : Int32).toNatClampNeg (vp_nar .byte p0.toInt8.toInt32)) (fun _ => 0) (0 : Int32).toNatClampNeg (0 : Int32).toNatClampNeg (1 : Int32).toNatClampNeg)))] := (hD.to hAz).pick (ws' := [(q_55, .inr (0, [.ref q_56, .int 0, .int 0, .int 0])), (q_56, .inl (g 5, 1, .inl (va_cpy (upd (fun _ => 0) (0 : Int32).toNatClampNeg (vp_nar .byte p0.toInt8.toInt32)) (fun _ => 0) (0 : Int32).toNatClampNeg (0 : Int32).toNatClampNeg (1 : Int32).toNatClampNeg)))]) [2, 4] (by decide) rfl
          have hFc := AnA (ws := [((a 200), f_m a g)]) hS.1
          refine va_calli (va_runV (As := []) (rest := []) ⟨hx, hb, hml, hown, ht⟩ (k_J0_length_8abf5_v6 l D g z0 _ a q_55 q_55 q_56 (va_cpy (upd (fun _ => 0) (0 : Int32).toNatClampNeg (vp_nar .byte p0.toInt8.toInt32)) (fun _ => 0) (0 : Int32).toNatClampNeg (0 : Int32).toNatClampNeg (1 : Int32).toNatClampNeg) (fit_cpy (fit_upd (fun _ => by decide)) (fun _ => by decide))) (cwV 0 ht (gV w_492 w_402 w_403 w_394 w_401) rfl rfl rfl (by decide +kernel) (le2 rfl rfl)) ⟨PP.blind, va_recv hK.1 hP (ci := 0) (q0 := 2) rfl rfl, PP.mk' hK hZ hz hAz hS hPc hDc⟩ rfl rfl hl.1 rfl (lv_room (Nat.le_of_ble_eq_true rfl)) dX15_march_69 (le2 rfl rfl)) hS (fun q _ h => hFc q h) hFc (fun r u t H locs ht1 hvm hw hB hz1 hk1 hS => ?_)
          obtain ⟨rfl, hw⟩ := hw
          have hP := ro1 hP hk1
          have hP9 := hP.sub (ws' := [((a 200), .inr (21, [.int 0, .ref (a 201), .ref (a 202), .ref (a 203), .ref (a 204), .ref (a 205), .ref (a 206), .int 0, .int 0, .int 0, .int 0, .ref (a 208), .ref (a 209), .ref (a 210), .ref (a 211), .ref (a 212), .int 4, .int 12, .int (-1), .int 0, .ref q_55, .ref (a 213), .int 0, .int 97, .ref (a 214), .ref (a 215), .ref (a 207), .null, .int 0]))]) [0] rfl
          have hD9 := hD.sub (ws' := [((a 200), .inr (21, [.int 0, .ref (a 201), .ref (a 202), .ref (a 203), .ref (a 204), .ref (a 205), .ref (a 206), .int 0, .int 0, .int 0, .int 0, .ref (a 208), .ref (a 209), .ref (a 210), .ref (a 211), .ref (a 212), .int 4, .int 12, .int (-1), .int 0, .ref q_55, .ref (a 213), .int 0, .int 97, .ref (a 214), .ref (a 215), .ref (a 207), .null, .int 0]))]) [0] (by decide) rfl
          refine W.widen (k := 4) (n := 25) (Nat.le_of_ble_eq_true rfl) (Nat.le_of_ble_eq_true rfl) ?_
          exact W.iret (v := 1) hx hb hr (fun t ht9 hW9 => ⟨⟨1, (0, q_55), rfl, (Or.inr (Or.inr (Or.inr (Or.inr (Or.inl ⟨rfl, rfl, c_49⟩))))), ⟨(by rw [ht9]; exact hP9), hD9⟩⟩, hS.F ht9⟩) hS.2.2 dX15_march_72 hlocks
        · exact absurd c_52 (by decide)
      · exact absurd c_51 (by decide)
    · exact absurd c_50 (by decide)
  · obtain ⟨rfl, hw⟩ := hw
    have c_57 := hw
    have hP := ro1 hP hk1
    refine lv_if_ge (tgt := 15) hx hb dX15_march_8 (by decide) (fun c_58 => ?_) (fun c_58 => ?_)
    · refine lv_aload_n hx hb dX15_march_15 rfl (lv_at hl 0 rfl) ?_
      refine va_get (D := D) (ci := 21) (v := .ref (g 200)) (C := RX15) (T := TX15) (N := 29) hx hb ht in_X15 hown hK.1 hP 0 rfl rfl 20 (by decide) (ht _ w_491) (fun _ h9 => h9) rfl dX15_march_16 ?_
      have hPc : va_P D vwCl [] _ := hP.sub (ws' := []) [] rfl
      have hDc : va_D (fun q => z0 ≤ q) [] := (hD.to hAz).pick (ws' := []) [] (by decide) rfl
      have hFc := AnA (ws := [((a 200), f_m a g)]) hS.1
      refine va_calli (va_runV (As := []) (rest := [.ref (a 200)]) ⟨hx, hb, hml, hown, ht⟩ (k_J0_length_8abf5_v2 l D g z0 _ a) (cwV 0 ht (gV w_492 w_402 w_403 w_394 w_401) rfl rfl rfl (by decide +kernel) (le2 rfl rfl)) ⟨PP.blind, vk_recv (i := 0) (hZ.m hAz).2.2.1 (by decide) hS, PP.mk' hK hZ hz hAz hS hPc hDc⟩ rfl rfl hl.1 rfl (lv_room (Nat.le_of_ble_eq_true rfl)) dX15_march_19 (le2 rfl rfl)) hS (fun q _ h => hFc q h) hFc (fun r u t H locs ht1 hvm hw hB hz1 hk1 hS => ?_)
      obtain ⟨rfl, hw⟩ := hw
      have hP := ro1 hP hk1
      refine lv_bipush (v := 24) hx hb dX15_march_22 (by decide) ?_
      refine lv_icmp_ne (tgt := 31) hx hb dX15_march_24 (by decide) (fun c_59 => ?_) (fun c_59 => ?_)
      · refine lv_iconst (v := 0) hx hb dX15_march_31 (by decide) ?_
        have hPc : va_P D vwCl [((a 200), f_m a g)] _ := hP.sub (ws' := [((a 200), f_m a g)]) [0] rfl
        have hDc : va_D (fun q => z0 ≤ q) [((a 200), f_m a g)] := (hD.to hAz).pick (ws' := [((a 200), f_m a g)]) [0] (by decide) rfl
        have hFc := va_free (wc := [((a 200), f_m a g)]) hD hS hA [0] rfl
        refine va_calli (va_runV (As := [.int 0]) (rest := []) ⟨hx, hb, hml, hown, ht⟩ (k_X15_isWrong_v1 l D g z0 _ a) (cwV 1 ht (gV w_376 w_378 w_379 w_334 w_377) rfl rfl rfl (by decide +kernel) (le2 rfl rfl)) ⟨PP.blind, va_recv hK.1 hP (ci := 21) (q0 := 0) rfl rfl, PP.mk' hK hZ hz hAz hS hPc hDc⟩ rfl rfl hl.1 rfl (lv_room (Nat.le_of_ble_eq_true rfl)) dX15_march_32 (le2 rfl rfl)) hS (fun q _ h => hFc q h) hFc (fun r u t H locs ht1 hvm hw hB hz1 hk1 hS => ?_)
        obtain ⟨rfl, hw⟩ := hw
        obtain ⟨hP1, hD1⟩ := hB
        rw [ht1] at hP1
        obtain ⟨hP, hD⟩ := va_join (wr := []) (w1 := [((a 200), f_m a g)]) hP hD [0] [] rfl rfl (by decide) (by decide) hk1 hFc hP1 hD1
        have hP : va_P D vwCl [((a 200), f_m a g)] H := hP
        have hD : va_D (va_A [((a 200), f_m a g)] s.heap.size) [((a 200), f_m a g)] := hD
        refine lv_if_eq (tgt := 40) hx hb dX15_march_35 (by decide) (fun c_60 => ?_) (fun c_60 => ?_)
        · refine va_new (ci := 1) (fs := [.null, .int 0, .int 0, .int 0]) (C := RJ4) (T := TJ4) (N := 4) hx hb ht in_J4 tyJ4 tyJ4_ok hown (ht _ w_1292) (ht _ w_1293) (ht _ w_1294) hK.1 hP hD hS hA rfl (fun j hj => by rcases (show j = 0 ∨ j = 1 ∨ j = 2 ∨ j = 3 by omega) with rfl | rfl | rfl | rfl <;> rfl) (Nat.le_of_ble_eq_true rfl) (Nat.le_of_ble_eq_true rfl) dX15_march_40 (fun q_61 H hP hD hS => ?_)
          have hP : va_P D vwCl [((a 200), f_m a g), (q_61, .inr (1, [.null, .int 0, .int 0, .int 0]))] H := hP
          have hD : va_D (va_A [((a 200), f_m a g)] s.heap.size) [((a 200), f_m a g), (q_61, .inr (1, [.null, .int 0, .int 0, .int 0]))] := hD
          refine lv_dup hx hb dX15_march_43 rfl ?_
          have hPc : va_P D vwCl [(q_61, .inr (1, [.null, .int 0, .int 0, .int 0]))] _ := hP.sub (ws' := [(q_61, .inr (1, [.null, .int 0, .int 0, .int 0]))]) [1] rfl
          have hDc : va_D (fun q => z0 ≤ q) [(q_61, .inr (1, [.null, .int 0, .int 0, .int 0]))] := (hD.to hAz).pick (ws' := [(q_61, .inr (1, [.null, .int 0, .int 0, .int 0]))]) [1] (by decide) rfl
          have hFc := va_free (wc := [(q_61, .inr (1, [.null, .int 0, .int 0, .int 0]))]) hD hS hA [1] rfl
          refine va_callv (va_runI (As := []) (rest := [.ref q_61]) ⟨hx, hb, hml, hown, ht⟩ (k_J4_init_da8c8 l D g z0 _ a q_61) (cwI 0 ht (gI w_1305) rfl rfl rfl (ht _ w_1294) (ht _ w_1304) (ht _ w_1306) rfl (by decide +kernel) (le2 rfl rfl)) ⟨PP.blind, PP.mk' hK hZ hz hAz hS hPc hDc⟩ rfl rfl hl.1 rfl (lv_room (Nat.le_of_ble_eq_true rfl)) dX15_march_44 (le2 rfl rfl)) hS (fun q _ h => hFc q h) hFc (fun u t H locs ht1 hvm hw hB hz1 hk1 hS => ?_)
          obtain ⟨q_62, hP1, hD1⟩ := hB
          rw [ht1] at hP1
          obtain ⟨hP, hD⟩ := va_join (wr := [((a 200), f_m a g)]) (w1 := [(q_61, .inr (1, [.ref q_62, .int 0, .int 0, .int 0])), (q_62, .inl (g 5, 16, .inl (fun _ => 0)))]) hP hD [1] [0] rfl rfl (by decide) (by decide) hk1 hFc hP1 hD1
          have hP : va_P D vwCl [((a 200), f_m a g), (q_61, .inr (1, [.ref q_62, .int 0, .int 0, .int 0])), (q_62, .inl (g 5, 16, .inl (fun _ => 0)))] H := hP
          have hD : va_D (va_A [((a 200), f_m a g)] s.heap.size) [((a 200), f_m a g), (q_61, .inr (1, [.ref q_62, .int 0, .int 0, .int 0])), (q_62, .inl (g 5, 16, .inl (fun _ => 0)))] := hD
          refine lv_aload_n hx hb dX15_march_47 rfl (lv_at hl 0 rfl) ?_
          refine lv_dup_x1 hx hb dX15_march_48 rfl rfl ?_
          refine va_get (D := D) (ci := 21) (v := .ref (g 200)) (C := RX15) (T := TX15) (N := 29) hx hb ht in_X15 hown hK.1 hP 0 rfl rfl 20 (by decide) (ht _ w_491) (fun _ h9 => h9) rfl dX15_march_49 ?_
          have hPc : va_P D vwCl [(q_61, .inr (1, [.ref q_62, .int 0, .int 0, .int 0])), (q_62, .inl (g 5, 16, .inl (fun _ => 0)))] _ := hP.sub (ws' := [(q_61, .inr (1, [.ref q_62, .int 0, .int 0, .int 0])), (q_62, .inl (g 5, 16, .inl (fun _ => 0)))]) [1, 2] rfl
          have hDc : va_D (fun q => z0 ≤ q) [(q_61, .inr (1, [.ref q_62, .int 0, .int 0, .int 0])), (q_62, .inl (g 5, 16, .inl (fun _ => 0)))] := (hD.to hAz).pick (ws' := [(q_61, .inr (1, [.ref q_62, .int 0, .int 0, .int 0])), (q_62, .inl (g 5, 16, .inl (fun _ => 0)))]) [1, 2] (by decide) rfl
          have hFc := va_free (wc := [(q_61, .inr (1, [.ref q_62, .int 0, .int 0, .int 0])), (q_62, .inl (g 5, 16, .inl (fun _ => 0)))]) hD hS hA [1, 2] rfl
          refine va_callr (va_runV (As := [.ref (g 200)]) (rest := [.ref (a 200)]) ⟨hx, hb, hml, hown, ht⟩ (k_J4_append_15ec4 l D g z0 _ a q_61 q_62 (fun _ => 0) (fun _ => by decide)) (cwV 1 ht (gV w_1338 w_1340 w_1341 w_1294 w_1339) rfl rfl rfl (by decide +kernel) (le2 rfl rfl)) ⟨PP.blind, va_recv hK.1 hP (ci := 1) (q0 := 1) rfl rfl, PP.mk' hK hZ hz hAz hS hPc hDc⟩ rfl rfl hl.1 rfl (lv_room (Nat.le_of_ble_eq_true rfl)) dX15_march_52 (le2 rfl rfl)) hS (fun q _ h => hFc q h) hFc (fun u ra t H locs ht1 hvm hw hB hz1 hk1 hS => ?_)
          obtain ⟨hr9, hP1, hD1⟩ := hB
          rw [ht1] at hP1
          obtain ⟨hP, hD⟩ := va_join (wr := [((a 200), f_m a g)]) (w1 := [(q_61, .inr (1, [.ref q_62, .int 0, .int 0, .int 0])), (q_62, .inl (g 5, 16, .inl (fun _ => 0)))]) hP hD [1, 2] [0] rfl rfl (by decide) (by decide) hk1 hFc hP1 hD1
          subst hr9
          have hP : va_P D vwCl [((a 200), f_m a g), (q_61, .inr (1, [.ref q_62, .int 0, .int 0, .int 0])), (q_62, .inl (g 5, 16, .inl (fun _ => 0)))] H := hP
          have hD : va_D (va_A [((a 200), f_m a g)] s.heap.size) [((a 200), f_m a g), (q_61, .inr (1, [.ref q_62, .int 0, .int 0, .int 0])), (q_62, .inl (g 5, 16, .inl (fun _ => 0)))] := hD
          refine lv_iload_n hx hb dX15_march_55 rfl (lv_at hl 1 rfl) ?_
          have hPc : va_P D vwCl [(q_61, .inr (1, [.ref q_62, .int 0, .int 0, .int 0])), (q_62, .inl (g 5, 16, .inl (fun _ => 0)))] _ := hP.sub (ws' := [(q_61, .inr (1, [.ref q_62, .int 0, .int 0, .int 0])), (q_62, .inl (g 5, 16, .inl (fun _ => 0)))]) [1, 2] rfl
          have hDc : va_D (fun q => z0 ≤ q) [(q_61, .inr (1, [.ref q_62, .int 0, .int 0, .int 0])), (q_62, .inl (g 5, 16, .inl (fun _ => 0)))] := (hD.to hAz).pick (ws' := [(q_61, .inr (1, [.ref q_62, .int 0, .int 0, .int 0])), (q_62, .inl (g 5, 16, .inl (fun _ => 0)))]) [1, 2] (by decide) rfl
          have hFc := va_free (wc := [(q_61, .inr (1, [.ref q_62, .int 0, .int 0, .int 0])), (q_62, .inl (g 5, 16, .inl (fun _ => 0)))]) hD hS hA [1, 2] rfl
          refine va_callr (va_runV (As := [.int p0]) (rest := [.ref (a 200)]) ⟨hx, hb, hml, hown, ht⟩ (k_J4_append_cf468 l D g z0 _ a q_61 q_62 (fun _ => 0) (fun _ => by decide) p0 (by rw [c_57]; decide) (by rw [c_57]; decide) hc_p0) (cwV 1 ht (gV w_1354 w_1356 w_1357 w_1294 w_1355) rfl rfl rfl (by decide +kernel) (le2 rfl rfl)) ⟨PP.blind, va_recv hK.1 hP (ci := 1) (q0 := 1) rfl rfl, PP.mk' hK hZ hz hAz hS hPc hDc⟩ rfl rfl hl.1 rfl (lv_room (Nat.le_of_ble_eq_true rfl)) dX15_march_56 (le2 rfl rfl)) hS (fun q _ h => hFc q h) hFc (fun u ra t H locs ht1 hvm hw hB hz1 hk1 hS => ?_)
          obtain ⟨hr9, hP1, hD1⟩ := hB
          rw [ht1] at hP1
          obtain ⟨hP, hD⟩ := va_join (wr := [((a 200), f_m a g)]) (w1 := [(q_61, .inr (1, [.ref q_62, .int 0, .int 0, .int 1])), (q_62, .inl (g 5, 16, .inl (upd (fun _ => 0) (0 : Int32).toNatClampNeg (vp_nar .byte p0.toInt8.toInt32))))]) hP hD [1, 2] [0] rfl rfl (by decide) (by decide) hk1 hFc hP1 hD1
          subst hr9
          have hP : va_P D vwCl [((a 200), f_m a g), (q_61, .inr (1, [.ref q_62, .int 0, .int 0, .int 1])), (q_62, .inl (g 5, 16, .inl (upd (fun _ => 0) (0 : Int32).toNatClampNeg (vp_nar .byte p0.toInt8.toInt32))))] H := hP
          have hD : va_D (va_A [((a 200), f_m a g)] s.heap.size) [((a 200), f_m a g), (q_61, .inr (1, [.ref q_62, .int 0, .int 0, .int 1])), (q_62, .inl (g 5, 16, .inl (upd (fun _ => 0) (0 : Int32).toNatClampNeg (vp_nar .byte p0.toInt8.toInt32))))] := hD
          have hPc : va_P D vwCl [(q_61, .inr (1, [.ref q_62, .int 0, .int 0, .int 1])), (q_62, .inl (g 5, 16, .inl (upd (fun _ => 0) (0 : Int32).toNatClampNeg (vp_nar .byte p0.toInt8.toInt32))))] _ := hP.sub (ws' := [(q_61, .inr (1, [.ref q_62, .int 0, .int 0, .int 1])), (q_62, .inl (g 5, 16, .inl (upd (fun _ => 0) (0 : Int32).toNatClampNeg (vp_nar .byte p0.toInt8.toInt32))))]) [1, 2] rfl
          have hDc : va_D (fun q => z0 ≤ q) [(q_61, .inr (1, [.ref q_62, .int 0, .int 0, .int 1])), (q_62, .inl (g 5, 16, .inl (upd (fun _ => 0) (0 : Int32).toNatClampNeg (vp_nar .byte p0.toInt8.toInt32))))] := (hD.to hAz).pick (ws' := [(q_61, .inr (1, [.ref q_62, .int 0, .int 0, .int 1])), (q_62, .inl (g 5, 16, .inl (upd (fun _ => 0) (0 : Int32).toNatClampNeg (vp_nar .byte p0.toInt8.toInt32))))]) [1, 2] (by decide) rfl
          have hFc := va_free (wc := [(q_61, .inr (1, [.ref q_62, .int 0, .int 0, .int 1])), (q_62, .inl (g 5, 16, .inl (upd (fun _ => 0) (0 : Int32).toNatClampNeg (vp_nar .byte p0.toInt8.toInt32))))]) hD hS hA [1, 2] rfl
          refine va_callr (va_runV (As := []) (rest := [.ref (a 200)]) ⟨hx, hb, hml, hown, ht⟩ (k_J4_toString_0e30d l D g z0 _ a q_61 q_62 (upd (fun _ => 0) (0 : Int32).toNatClampNeg (vp_nar .byte p0.toInt8.toInt32)) (fit_upd (fun _ => by decide))) (cwV 0 ht (gV w_1392 w_1394 w_1395 w_1294 w_1393) rfl rfl rfl (by decide +kernel) (le2 rfl rfl)) ⟨PP.blind, va_recv hK.1 hP (ci := 1) (q0 := 1) rfl rfl, PP.mk' hK hZ hz hAz hS hPc hDc⟩ rfl rfl hl.1 rfl (lv_room (Nat.le_of_ble_eq_true rfl)) dX15_march_59 (le2 rfl rfl)) hS (fun q _ h => hFc q h) hFc (fun u ra t H locs ht1 hvm hw hB hz1 hk1 hS => ?_)
          obtain ⟨q_63, q_64, hr9, hP1, hD1⟩ := hB
          rw [ht1] at hP1
          obtain ⟨hP, hD⟩ := va_join (wr := [((a 200), f_m a g)]) (w1 := [(q_61, .inr (1, [.ref q_62, .int 0, .int 0, .int 1])), (q_63, .inr (0, [.ref q_64, .int 0, .int 0, .int 0])), (q_62, .inl (g 5, 16, .inl (upd (fun _ => 0) (0 : Int32).toNatClampNeg (vp_nar .byte p0.toInt8.toInt32)))), (q_64, .inl (g 5, 1, .inl (va_cpy (upd (fun _ => 0) (0 : Int32).toNatClampNeg (vp_nar .byte p0.toInt8.toInt32)) (fun _ => 0) (0 : Int32).toNatClampNeg (0 : Int32).toNatClampNeg (1 : Int32).toNatClampNeg)))]) hP hD [1, 2] [0] rfl rfl (by decide) (by decide) hk1 hFc hP1 hD1
          subst hr9
          have hP : va_P D vwCl [((a 200), f_m a g), (q_61, .inr (1, [.ref q_62, .int 0, .int 0, .int 1])), (q_63, .inr (0, [.ref q_64, .int 0, .int 0, .int 0])), (q_62, .inl (g 5, 16, .inl (upd (fun _ => 0) (0 : Int32).toNatClampNeg (vp_nar .byte p0.toInt8.toInt32)))), (q_64, .inl (g 5, 1, .inl (va_cpy (upd (fun _ => 0) (0 : Int32).toNatClampNeg (vp_nar .byte p0.toInt8.toInt32)) (fun _ => 0) (0 : Int32).toNatClampNeg (0 : Int32).toNatClampNeg (1 : Int32).toNatClampNeg)))] H := hP
          have hD : va_D (va_A [((a 200), f_m a g)] s.heap.size) [((a 200), f_m a g), (q_61, .inr (1, [.ref q_62, .int 0, .int 0, .int 1])), (q_63, .inr (0, [.ref q_64, .int 0, .int 0, .int 0])), (q_62, .inl (g 5, 16, .inl (upd (fun _ => 0) (0 : Int32).toNatClampNeg (vp_nar .byte p0.toInt8.toInt32)))), (q_64, .inl (g 5, 1, .inl (va_cpy (upd (fun _ => 0) (0 : Int32).toNatClampNeg (vp_nar .byte p0.toInt8.toInt32)) (fun _ => 0) (0 : Int32).toNatClampNeg (0 : Int32).toNatClampNeg (1 : Int32).toNatClampNeg)))] := hD
          refine va_put (D := D) (ci := 21) (v := .ref q_63) (ty := .object "java/lang/String") (C := RX15) (T := TX15) (N := 29) hx hb ht in_X15 tyX15 tyX15_ok nmX15 hown hK.1 hP hD hS 0 rfl rfl 20 (by decide) (ht _ w_491) (fun _ h9 => h9) rfl (by decide +kernel) rfl rfl (Nat.le_of_ble_eq_true rfl) dX15_march_62 (fun H locs hP hD hS => ?_)
          have hP : va_P D vwCl [((a 200), .inr (21, [.int 0, .ref (a 201), .ref (a 202), .ref (a 203), .ref (a 204), .ref (a 205), .ref (a 206), .int 0, .int 0, .int 0, .int 0, .ref (a 208), .ref (a 209), .ref (a 210), .ref (a 211), .ref (a 212), .int 4, .int 12, .int (-1), .int 0, .ref q_63, .ref (a 213), .int 0, .int 97, .ref (a 214), .ref (a 215), .ref (a 207), .null, .int 0])), (q_61, .inr (1, [.ref q_62, .int 0, .int 0, .int 1])), (q_63, .inr (0, [.ref q_64, .int 0, .int 0, .int 0])), (q_62, .inl (g 5, 16, .inl (upd (fun _ => 0) (0 : Int32).toNatClampNeg (vp_nar .byte p0.toInt8.toInt32)))), (q_64, .inl (g 5, 1, .inl (va_cpy (upd (fun _ => 0) (0 : Int32).toNatClampNeg (vp_nar .byte p0.toInt8.toInt32)) (fun _ => 0) (0 : Int32).toNatClampNeg (0 : Int32).toNatClampNeg (1 : Int32).toNatClampNeg)))] H := hP
          have hD : va_D (va_A [((a 200), f_m a g)] s.heap.size) [((a 200), .inr (21, [.int 0, .ref (a 201), .ref (a 202), .ref (a 203), .ref (a 204), .ref (a 205), .ref (a 206), .int 0, .int 0, .int 0, .int 0, .ref (a 208), .ref (a 209), .ref (a 210), .ref (a 211), .ref (a 212), .int 4, .int 12, .int (-1), .int 0, .ref q_63, .ref (a 213), .int 0, .int 97, .ref (a 214), .ref (a 215), .ref (a 207), .null, .int 0])), (q_61, .inr (1, [.ref q_62, .int 0, .int 0, .int 1])), (q_63, .inr (0, [.ref q_64, .int 0, .int 0, .int 0])), (q_62, .inl (g 5, 16, .inl (upd (fun _ => 0) (0 : Int32).toNatClampNeg (vp_nar .byte p0.toInt8.toInt32)))), (q_64, .inl (g 5, 1, .inl (va_cpy (upd (fun _ => 0) (0 : Int32).toNatClampNeg (vp_nar .byte p0.toInt8.toInt32)) (fun _ => 0) (0 : Int32).toNatClampNeg (0 : Int32).toNatClampNeg (1 : Int32).toNatClampNeg)))] := hD
          refine lv_aload_n hx hb dX15_march_65 rfl (lv_at hl 0 rfl) ?_
          refine va_get (D := D) (ci := 21) (v := .ref q_63) (C := RX15) (T := TX15) (N := 29) hx hb ht in_X15 hown hK.1 hP 0 rfl rfl 20 (by decide) (ht _ w_491) (fun _ h9 => h9) rfl dX15_march_66 ?_
          have hPc : va_P D vwCl [(q_63, .inr (0, [.ref q_64, .int 0, .int 0, .int 0])), (q_64, .inl (g 5, 1, .inl (va_cpy (upd (fun _ => 0) (0 : Int32).toNatClampNeg (vp_nar .byte p0.toInt8.toInt32)) (fun _ => 0) (0 : Int32).toNatClampNeg (0 : Int32).toNatClampNeg (1 : Int32).toNatClampNeg)))] _ := hP.sub (ws' := [(q_63, .inr (0, [.ref q_64, .int 0, .int 0, .int 0])), (q_64, .inl (g 5, 1, .inl (va_cpy (upd (fun _ => 0) (0 : Int32).toNatClampNeg (vp_nar .byte p0.toInt8.toInt32)) (fun _ => 0) (0 : Int32).toNatClampNeg (0 : Int32).toNatClampNeg (1 : Int32).toNatClampNeg)))]) [2, 4] rfl
          have hDc : va_D (fun q => z0 ≤ q) [(q_63, .inr (0, [.ref q_64, .int 0, .int 0, .int 0])), (q_64, .inl (g 5, 1, .inl (va_cpy (upd (fun _ => 0) (0 : Int32).toNatClampNeg (vp_nar .byte p0.toInt8.toInt32)) (fun _ => 0) (0 : Int32).toNatClampNeg (0 : Int32).toNatClampNeg (1 : Int32).toNatClampNeg)))] := (hD.to hAz).pick (ws' := [(q_63, .inr (0, [.ref q_64, .int 0, .int 0, .int 0])), (q_64, .inl (g 5, 1, .inl (va_cpy (upd (fun _ => 0) (0 : Int32).toNatClampNeg (vp_nar .byte p0.toInt8.toInt32)) (fun _ => 0) (0 : Int32).toNatClampNeg (0 : Int32).toNatClampNeg (1 : Int32).toNatClampNeg)))]) [2, 4] (by decide) rfl
          have hFc := AnA (ws := [((a 200), f_m a g)]) hS.1
          refine va_calli (va_runV (As := []) (rest := []) ⟨hx, hb, hml, hown, ht⟩ (k_J0_length_8abf5_v6 l D g z0 _ a q_63 q_63 q_64 (va_cpy (upd (fun _ => 0) (0 : Int32).toNatClampNeg (vp_nar .byte p0.toInt8.toInt32)) (fun _ => 0) (0 : Int32).toNatClampNeg (0 : Int32).toNatClampNeg (1 : Int32).toNatClampNeg) (fit_cpy (fit_upd (fun _ => by decide)) (fun _ => by decide))) (cwV 0 ht (gV w_492 w_402 w_403 w_394 w_401) rfl rfl rfl (by decide +kernel) (le2 rfl rfl)) ⟨PP.blind, va_recv hK.1 hP (ci := 0) (q0 := 2) rfl rfl, PP.mk' hK hZ hz hAz hS hPc hDc⟩ rfl rfl hl.1 rfl (lv_room (Nat.le_of_ble_eq_true rfl)) dX15_march_69 (le2 rfl rfl)) hS (fun q _ h => hFc q h) hFc (fun r u t H locs ht1 hvm hw hB hz1 hk1 hS => ?_)
          obtain ⟨rfl, hw⟩ := hw
          have hP := ro1 hP hk1
          have hP9 := hP.sub (ws' := [((a 200), .inr (21, [.int 0, .ref (a 201), .ref (a 202), .ref (a 203), .ref (a 204), .ref (a 205), .ref (a 206), .int 0, .int 0, .int 0, .int 0, .ref (a 208), .ref (a 209), .ref (a 210), .ref (a 211), .ref (a 212), .int 4, .int 12, .int (-1), .int 0, .ref q_63, .ref (a 213), .int 0, .int 97, .ref (a 214), .ref (a 215), .ref (a 207), .null, .int 0]))]) [0] rfl
          have hD9 := hD.sub (ws' := [((a 200), .inr (21, [.int 0, .ref (a 201), .ref (a 202), .ref (a 203), .ref (a 204), .ref (a 205), .ref (a 206), .int 0, .int 0, .int 0, .int 0, .ref (a 208), .ref (a 209), .ref (a 210), .ref (a 211), .ref (a 212), .int 4, .int 12, .int (-1), .int 0, .ref q_63, .ref (a 213), .int 0, .int 97, .ref (a 214), .ref (a 215), .ref (a 207), .null, .int 0]))]) [0] (by decide) rfl
          refine W.widen (k := 4) (n := 25) (Nat.le_of_ble_eq_true rfl) (Nat.le_of_ble_eq_true rfl) ?_
          exact W.iret (v := 1) hx hb hr (fun t ht9 hW9 => ⟨⟨1, (0, q_63), rfl, (Or.inr (Or.inr (Or.inr (Or.inr (Or.inr (Or.inl ⟨rfl, rfl, c_57⟩)))))), ⟨(by rw [ht9]; exact hP9), hD9⟩⟩, hS.F ht9⟩) hS.2.2 dX15_march_72 hlocks
        · exact absurd c_60 (by decide)
      · exact absurd c_59 (by decide)
    · exact absurd c_58 (by decide)
  · obtain ⟨rfl, hw⟩ := hw
    have c_65 := hw
    have hP := ro1 hP hk1
    refine lv_if_ge (tgt := 15) hx hb dX15_march_8 (by decide) (fun c_66 => ?_) (fun c_66 => ?_)
    · refine lv_aload_n hx hb dX15_march_15 rfl (lv_at hl 0 rfl) ?_
      refine va_get (D := D) (ci := 21) (v := .ref (g 200)) (C := RX15) (T := TX15) (N := 29) hx hb ht in_X15 hown hK.1 hP 0 rfl rfl 20 (by decide) (ht _ w_491) (fun _ h9 => h9) rfl dX15_march_16 ?_
      have hPc : va_P D vwCl [] _ := hP.sub (ws' := []) [] rfl
      have hDc : va_D (fun q => z0 ≤ q) [] := (hD.to hAz).pick (ws' := []) [] (by decide) rfl
      have hFc := AnA (ws := [((a 200), f_m a g)]) hS.1
      refine va_calli (va_runV (As := []) (rest := [.ref (a 200)]) ⟨hx, hb, hml, hown, ht⟩ (k_J0_length_8abf5_v2 l D g z0 _ a) (cwV 0 ht (gV w_492 w_402 w_403 w_394 w_401) rfl rfl rfl (by decide +kernel) (le2 rfl rfl)) ⟨PP.blind, vk_recv (i := 0) (hZ.m hAz).2.2.1 (by decide) hS, PP.mk' hK hZ hz hAz hS hPc hDc⟩ rfl rfl hl.1 rfl (lv_room (Nat.le_of_ble_eq_true rfl)) dX15_march_19 (le2 rfl rfl)) hS (fun q _ h => hFc q h) hFc (fun r u t H locs ht1 hvm hw hB hz1 hk1 hS => ?_)
      obtain ⟨rfl, hw⟩ := hw
      have hP := ro1 hP hk1
      refine lv_bipush (v := 24) hx hb dX15_march_22 (by decide) ?_
      refine lv_icmp_ne (tgt := 31) hx hb dX15_march_24 (by decide) (fun c_67 => ?_) (fun c_67 => ?_)
      · refine lv_iconst (v := 0) hx hb dX15_march_31 (by decide) ?_
        have hPc : va_P D vwCl [((a 200), f_m a g)] _ := hP.sub (ws' := [((a 200), f_m a g)]) [0] rfl
        have hDc : va_D (fun q => z0 ≤ q) [((a 200), f_m a g)] := (hD.to hAz).pick (ws' := [((a 200), f_m a g)]) [0] (by decide) rfl
        have hFc := va_free (wc := [((a 200), f_m a g)]) hD hS hA [0] rfl
        refine va_calli (va_runV (As := [.int 0]) (rest := []) ⟨hx, hb, hml, hown, ht⟩ (k_X15_isWrong_v1 l D g z0 _ a) (cwV 1 ht (gV w_376 w_378 w_379 w_334 w_377) rfl rfl rfl (by decide +kernel) (le2 rfl rfl)) ⟨PP.blind, va_recv hK.1 hP (ci := 21) (q0 := 0) rfl rfl, PP.mk' hK hZ hz hAz hS hPc hDc⟩ rfl rfl hl.1 rfl (lv_room (Nat.le_of_ble_eq_true rfl)) dX15_march_32 (le2 rfl rfl)) hS (fun q _ h => hFc q h) hFc (fun r u t H locs ht1 hvm hw hB hz1 hk1 hS => ?_)
        obtain ⟨rfl, hw⟩ := hw
        obtain ⟨hP1, hD1⟩ := hB
        rw [ht1] at hP1
        obtain ⟨hP, hD⟩ := va_join (wr := []) (w1 := [((a 200), f_m a g)]) hP hD [0] [] rfl rfl (by decide) (by decide) hk1 hFc hP1 hD1
        have hP : va_P D vwCl [((a 200), f_m a g)] H := hP
        have hD : va_D (va_A [((a 200), f_m a g)] s.heap.size) [((a 200), f_m a g)] := hD
        refine lv_if_eq (tgt := 40) hx hb dX15_march_35 (by decide) (fun c_68 => ?_) (fun c_68 => ?_)
        · refine va_new (ci := 1) (fs := [.null, .int 0, .int 0, .int 0]) (C := RJ4) (T := TJ4) (N := 4) hx hb ht in_J4 tyJ4 tyJ4_ok hown (ht _ w_1292) (ht _ w_1293) (ht _ w_1294) hK.1 hP hD hS hA rfl (fun j hj => by rcases (show j = 0 ∨ j = 1 ∨ j = 2 ∨ j = 3 by omega) with rfl | rfl | rfl | rfl <;> rfl) (Nat.le_of_ble_eq_true rfl) (Nat.le_of_ble_eq_true rfl) dX15_march_40 (fun q_69 H hP hD hS => ?_)
          have hP : va_P D vwCl [((a 200), f_m a g), (q_69, .inr (1, [.null, .int 0, .int 0, .int 0]))] H := hP
          have hD : va_D (va_A [((a 200), f_m a g)] s.heap.size) [((a 200), f_m a g), (q_69, .inr (1, [.null, .int 0, .int 0, .int 0]))] := hD
          refine lv_dup hx hb dX15_march_43 rfl ?_
          have hPc : va_P D vwCl [(q_69, .inr (1, [.null, .int 0, .int 0, .int 0]))] _ := hP.sub (ws' := [(q_69, .inr (1, [.null, .int 0, .int 0, .int 0]))]) [1] rfl
          have hDc : va_D (fun q => z0 ≤ q) [(q_69, .inr (1, [.null, .int 0, .int 0, .int 0]))] := (hD.to hAz).pick (ws' := [(q_69, .inr (1, [.null, .int 0, .int 0, .int 0]))]) [1] (by decide) rfl
          have hFc := va_free (wc := [(q_69, .inr (1, [.null, .int 0, .int 0, .int 0]))]) hD hS hA [1] rfl
          refine va_callv (va_runI (As := []) (rest := [.ref q_69]) ⟨hx, hb, hml, hown, ht⟩ (k_J4_init_da8c8 l D g z0 _ a q_69) (cwI 0 ht (gI w_1305) rfl rfl rfl (ht _ w_1294) (ht _ w_1304) (ht _ w_1306) rfl (by decide +kernel) (le2 rfl rfl)) ⟨PP.blind, PP.mk' hK hZ hz hAz hS hPc hDc⟩ rfl rfl hl.1 rfl (lv_room (Nat.le_of_ble_eq_true rfl)) dX15_march_44 (le2 rfl rfl)) hS (fun q _ h => hFc q h) hFc (fun u t H locs ht1 hvm hw hB hz1 hk1 hS => ?_)
          obtain ⟨q_70, hP1, hD1⟩ := hB
          rw [ht1] at hP1
          obtain ⟨hP, hD⟩ := va_join (wr := [((a 200), f_m a g)]) (w1 := [(q_69, .inr (1, [.ref q_70, .int 0, .int 0, .int 0])), (q_70, .inl (g 5, 16, .inl (fun _ => 0)))]) hP hD [1] [0] rfl rfl (by decide) (by decide) hk1 hFc hP1 hD1
          have hP : va_P D vwCl [((a 200), f_m a g), (q_69, .inr (1, [.ref q_70, .int 0, .int 0, .int 0])), (q_70, .inl (g 5, 16, .inl (fun _ => 0)))] H := hP
          have hD : va_D (va_A [((a 200), f_m a g)] s.heap.size) [((a 200), f_m a g), (q_69, .inr (1, [.ref q_70, .int 0, .int 0, .int 0])), (q_70, .inl (g 5, 16, .inl (fun _ => 0)))] := hD
          refine lv_aload_n hx hb dX15_march_47 rfl (lv_at hl 0 rfl) ?_
          refine lv_dup_x1 hx hb dX15_march_48 rfl rfl ?_
          refine va_get (D := D) (ci := 21) (v := .ref (g 200)) (C := RX15) (T := TX15) (N := 29) hx hb ht in_X15 hown hK.1 hP 0 rfl rfl 20 (by decide) (ht _ w_491) (fun _ h9 => h9) rfl dX15_march_49 ?_
          have hPc : va_P D vwCl [(q_69, .inr (1, [.ref q_70, .int 0, .int 0, .int 0])), (q_70, .inl (g 5, 16, .inl (fun _ => 0)))] _ := hP.sub (ws' := [(q_69, .inr (1, [.ref q_70, .int 0, .int 0, .int 0])), (q_70, .inl (g 5, 16, .inl (fun _ => 0)))]) [1, 2] rfl
          have hDc : va_D (fun q => z0 ≤ q) [(q_69, .inr (1, [.ref q_70, .int 0, .int 0, .int 0])), (q_70, .inl (g 5, 16, .inl (fun _ => 0)))] := (hD.to hAz).pick (ws' := [(q_69, .inr (1, [.ref q_70, .int 0, .int 0, .int 0])), (q_70, .inl (g 5, 16, .inl (fun _ => 0)))]) [1, 2] (by decide) rfl
          have hFc := va_free (wc := [(q_69, .inr (1, [.ref q_70, .int 0, .int 0, .int 0])), (q_70, .inl (g 5, 16, .inl (fun _ => 0)))]) hD hS hA [1, 2] rfl
          refine va_callr (va_runV (As := [.ref (g 200)]) (rest := [.ref (a 200)]) ⟨hx, hb, hml, hown, ht⟩ (k_J4_append_15ec4 l D g z0 _ a q_69 q_70 (fun _ => 0) (fun _ => by decide)) (cwV 1 ht (gV w_1338 w_1340 w_1341 w_1294 w_1339) rfl rfl rfl (by decide +kernel) (le2 rfl rfl)) ⟨PP.blind, va_recv hK.1 hP (ci := 1) (q0 := 1) rfl rfl, PP.mk' hK hZ hz hAz hS hPc hDc⟩ rfl rfl hl.1 rfl (lv_room (Nat.le_of_ble_eq_true rfl)) dX15_march_52 (le2 rfl rfl)) hS (fun q _ h => hFc q h) hFc (fun u ra t H locs ht1 hvm hw hB hz1 hk1 hS => ?_)
          obtain ⟨hr9, hP1, hD1⟩ := hB
          rw [ht1] at hP1
          obtain ⟨hP, hD⟩ := va_join (wr := [((a 200), f_m a g)]) (w1 := [(q_69, .inr (1, [.ref q_70, .int 0, .int 0, .int 0])), (q_70, .inl (g 5, 16, .inl (fun _ => 0)))]) hP hD [1, 2] [0] rfl rfl (by decide) (by decide) hk1 hFc hP1 hD1
          subst hr9
          have hP : va_P D vwCl [((a 200), f_m a g), (q_69, .inr (1, [.ref q_70, .int 0, .int 0, .int 0])), (q_70, .inl (g 5, 16, .inl (fun _ => 0)))] H := hP
          have hD : va_D (va_A [((a 200), f_m a g)] s.heap.size) [((a 200), f_m a g), (q_69, .inr (1, [.ref q_70, .int 0, .int 0, .int 0])), (q_70, .inl (g 5, 16, .inl (fun _ => 0)))] := hD
          refine lv_iload_n hx hb dX15_march_55 rfl (lv_at hl 1 rfl) ?_
          have hPc : va_P D vwCl [(q_69, .inr (1, [.ref q_70, .int 0, .int 0, .int 0])), (q_70, .inl (g 5, 16, .inl (fun _ => 0)))] _ := hP.sub (ws' := [(q_69, .inr (1, [.ref q_70, .int 0, .int 0, .int 0])), (q_70, .inl (g 5, 16, .inl (fun _ => 0)))]) [1, 2] rfl
          have hDc : va_D (fun q => z0 ≤ q) [(q_69, .inr (1, [.ref q_70, .int 0, .int 0, .int 0])), (q_70, .inl (g 5, 16, .inl (fun _ => 0)))] := (hD.to hAz).pick (ws' := [(q_69, .inr (1, [.ref q_70, .int 0, .int 0, .int 0])), (q_70, .inl (g 5, 16, .inl (fun _ => 0)))]) [1, 2] (by decide) rfl
          have hFc := va_free (wc := [(q_69, .inr (1, [.ref q_70, .int 0, .int 0, .int 0])), (q_70, .inl (g 5, 16, .inl (fun _ => 0)))]) hD hS hA [1, 2] rfl
          refine va_callr (va_runV (As := [.int p0]) (rest := [.ref (a 200)]) ⟨hx, hb, hml, hown, ht⟩ (k_J4_append_cf468 l D g z0 _ a q_69 q_70 (fun _ => 0) (fun _ => by decide) p0 (by rw [c_65]; decide) (by rw [c_65]; decide) hc_p0) (cwV 1 ht (gV w_1354 w_1356 w_1357 w_1294 w_1355) rfl rfl rfl (by decide +kernel) (le2 rfl rfl)) ⟨PP.blind, va_recv hK.1 hP (ci := 1) (q0 := 1) rfl rfl, PP.mk' hK hZ hz hAz hS hPc hDc⟩ rfl rfl hl.1 rfl (lv_room (Nat.le_of_ble_eq_true rfl)) dX15_march_56 (le2 rfl rfl)) hS (fun q _ h => hFc q h) hFc (fun u ra t H locs ht1 hvm hw hB hz1 hk1 hS => ?_)
          obtain ⟨hr9, hP1, hD1⟩ := hB
          rw [ht1] at hP1
          obtain ⟨hP, hD⟩ := va_join (wr := [((a 200), f_m a g)]) (w1 := [(q_69, .inr (1, [.ref q_70, .int 0, .int 0, .int 1])), (q_70, .inl (g 5, 16, .inl (upd (fun _ => 0) (0 : Int32).toNatClampNeg (vp_nar .byte p0.toInt8.toInt32))))]) hP hD [1, 2] [0] rfl rfl (by decide) (by decide) hk1 hFc hP1 hD1
          subst hr9
          have hP : va_P D vwCl [((a 200), f_m a g), (q_69, .inr (1, [.ref q_70, .int 0, .int 0, .int 1])), (q_70, .inl (g 5, 16, .inl (upd (fun _ => 0) (0 : Int32).toNatClampNeg (vp_nar .byte p0.toInt8.toInt32))))] H := hP
          have hD : va_D (va_A [((a 200), f_m a g)] s.heap.size) [((a 200), f_m a g), (q_69, .inr (1, [.ref q_70, .int 0, .int 0, .int 1])), (q_70, .inl (g 5, 16, .inl (upd (fun _ => 0) (0 : Int32).toNatClampNeg (vp_nar .byte p0.toInt8.toInt32))))] := hD
          have hPc : va_P D vwCl [(q_69, .inr (1, [.ref q_70, .int 0, .int 0, .int 1])), (q_70, .inl (g 5, 16, .inl (upd (fun _ => 0) (0 : Int32).toNatClampNeg (vp_nar .byte p0.toInt8.toInt32))))] _ := hP.sub (ws' := [(q_69, .inr (1, [.ref q_70, .int 0, .int 0, .int 1])), (q_70, .inl (g 5, 16, .inl (upd (fun _ => 0) (0 : Int32).toNatClampNeg (vp_nar .byte p0.toInt8.toInt32))))]) [1, 2] rfl
          have hDc : va_D (fun q => z0 ≤ q) [(q_69, .inr (1, [.ref q_70, .int 0, .int 0, .int 1])), (q_70, .inl (g 5, 16, .inl (upd (fun _ => 0) (0 : Int32).toNatClampNeg (vp_nar .byte p0.toInt8.toInt32))))] := (hD.to hAz).pick (ws' := [(q_69, .inr (1, [.ref q_70, .int 0, .int 0, .int 1])), (q_70, .inl (g 5, 16, .inl (upd (fun _ => 0) (0 : Int32).toNatClampNeg (vp_nar .byte p0.toInt8.toInt32))))]) [1, 2] (by decide) rfl
          have hFc := va_free (wc := [(q_69, .inr (1, [.ref q_70, .int 0, .int 0, .int 1])), (q_70, .inl (g 5, 16, .inl (upd (fun _ => 0) (0 : Int32).toNatClampNeg (vp_nar .byte p0.toInt8.toInt32))))]) hD hS hA [1, 2] rfl
          refine va_callr (va_runV (As := []) (rest := [.ref (a 200)]) ⟨hx, hb, hml, hown, ht⟩ (k_J4_toString_0e30d l D g z0 _ a q_69 q_70 (upd (fun _ => 0) (0 : Int32).toNatClampNeg (vp_nar .byte p0.toInt8.toInt32)) (fit_upd (fun _ => by decide))) (cwV 0 ht (gV w_1392 w_1394 w_1395 w_1294 w_1393) rfl rfl rfl (by decide +kernel) (le2 rfl rfl)) ⟨PP.blind, va_recv hK.1 hP (ci := 1) (q0 := 1) rfl rfl, PP.mk' hK hZ hz hAz hS hPc hDc⟩ rfl rfl hl.1 rfl (lv_room (Nat.le_of_ble_eq_true rfl)) dX15_march_59 (le2 rfl rfl)) hS (fun q _ h => hFc q h) hFc (fun u ra t H locs ht1 hvm hw hB hz1 hk1 hS => ?_)
          obtain ⟨q_71, q_72, hr9, hP1, hD1⟩ := hB
          rw [ht1] at hP1
          obtain ⟨hP, hD⟩ := va_join (wr := [((a 200), f_m a g)]) (w1 := [(q_69, .inr (1, [.ref q_70, .int 0, .int 0, .int 1])), (q_71, .inr (0, [.ref q_72, .int 0, .int 0, .int 0])), (q_70, .inl (g 5, 16, .inl (upd (fun _ => 0) (0 : Int32).toNatClampNeg (vp_nar .byte p0.toInt8.toInt32)))), (q_72, .inl (g 5, 1, .inl (va_cpy (upd (fun _ => 0) (0 : Int32).toNatClampNeg (vp_nar .byte p0.toInt8.toInt32)) (fun _ => 0) (0 : Int32).toNatClampNeg (0 : Int32).toNatClampNeg (1 : Int32).toNatClampNeg)))]) hP hD [1, 2] [0] rfl rfl (by decide) (by decide) hk1 hFc hP1 hD1
          subst hr9
          have hP : va_P D vwCl [((a 200), f_m a g), (q_69, .inr (1, [.ref q_70, .int 0, .int 0, .int 1])), (q_71, .inr (0, [.ref q_72, .int 0, .int 0, .int 0])), (q_70, .inl (g 5, 16, .inl (upd (fun _ => 0) (0 : Int32).toNatClampNeg (vp_nar .byte p0.toInt8.toInt32)))), (q_72, .inl (g 5, 1, .inl (va_cpy (upd (fun _ => 0) (0 : Int32).toNatClampNeg (vp_nar .byte p0.toInt8.toInt32)) (fun _ => 0) (0 : Int32).toNatClampNeg (0 : Int32).toNatClampNeg (1 : Int32).toNatClampNeg)))] H := hP
          have hD : va_D (va_A [((a 200), f_m a g)] s.heap.size) [((a 200), f_m a g), (q_69, .inr (1, [.ref q_70, .int 0, .int 0, .int 1])), (q_71, .inr (0, [.ref q_72, .int 0, .int 0, .int 0])), (q_70, .inl (g 5, 16, .inl (upd (fun _ => 0) (0 : Int32).toNatClampNeg (vp_nar .byte p0.toInt8.toInt32)))), (q_72, .inl (g 5, 1, .inl (va_cpy (upd (fun _ => 0) (0 : Int32).toNatClampNeg (vp_nar .byte p0.toInt8.toInt32)) (fun _ => 0) (0 : Int32).toNatClampNeg (0 : Int32).toNatClampNeg (1 : Int32).toNatClampNeg)))] := hD
          refine va_put (D := D) (ci := 21) (v := .ref q_71) (ty := .object "java/lang/String") (C := RX15) (T := TX15) (N := 29) hx hb ht in_X15 tyX15 tyX15_ok nmX15 hown hK.1 hP hD hS 0 rfl rfl 20 (by decide) (ht _ w_491) (fun _ h9 => h9) rfl (by decide +kernel) rfl rfl (Nat.le_of_ble_eq_true rfl) dX15_march_62 (fun H locs hP hD hS => ?_)
          have hP : va_P D vwCl [((a 200), .inr (21, [.int 0, .ref (a 201), .ref (a 202), .ref (a 203), .ref (a 204), .ref (a 205), .ref (a 206), .int 0, .int 0, .int 0, .int 0, .ref (a 208), .ref (a 209), .ref (a 210), .ref (a 211), .ref (a 212), .int 4, .int 12, .int (-1), .int 0, .ref q_71, .ref (a 213), .int 0, .int 97, .ref (a 214), .ref (a 215), .ref (a 207), .null, .int 0])), (q_69, .inr (1, [.ref q_70, .int 0, .int 0, .int 1])), (q_71, .inr (0, [.ref q_72, .int 0, .int 0, .int 0])), (q_70, .inl (g 5, 16, .inl (upd (fun _ => 0) (0 : Int32).toNatClampNeg (vp_nar .byte p0.toInt8.toInt32)))), (q_72, .inl (g 5, 1, .inl (va_cpy (upd (fun _ => 0) (0 : Int32).toNatClampNeg (vp_nar .byte p0.toInt8.toInt32)) (fun _ => 0) (0 : Int32).toNatClampNeg (0 : Int32).toNatClampNeg (1 : Int32).toNatClampNeg)))] H := hP
          have hD : va_D (va_A [((a 200), f_m a g)] s.heap.size) [((a 200), .inr (21, [.int 0, .ref (a 201), .ref (a 202), .ref (a 203), .ref (a 204), .ref (a 205), .ref (a 206), .int 0, .int 0, .int 0, .int 0, .ref (a 208), .ref (a 209), .ref (a 210), .ref (a 211), .ref (a 212), .int 4, .int 12, .int (-1), .int 0, .ref q_71, .ref (a 213), .int 0, .int 97, .ref (a 214), .ref (a 215), .ref (a 207), .null, .int 0])), (q_69, .inr (1, [.ref q_70, .int 0, .int 0, .int 1])), (q_71, .inr (0, [.ref q_72, .int 0, .int 0, .int 0])), (q_70, .inl (g 5, 16, .inl (upd (fun _ => 0) (0 : Int32).toNatClampNeg (vp_nar .byte p0.toInt8.toInt32)))), (q_72, .inl (g 5, 1, .inl (va_cpy (upd (fun _ => 0) (0 : Int32).toNatClampNeg (vp_nar .byte p0.toInt8.toInt32)) (fun _ => 0) (0 : Int32).toNatClampNeg (0 : Int32).toNatClampNeg (1 : Int32).toNatClampNeg)))] := hD
          refine lv_aload_n hx hb dX15_march_65 rfl (lv_at hl 0 rfl) ?_
          refine va_get (D := D) (ci := 21) (v := .ref q_71) (C := RX15) (T := TX15) (N := 29) hx hb ht in_X15 hown hK.1 hP 0 rfl rfl 20 (by decide) (ht _ w_491) (fun _ h9 => h9) rfl dX15_march_66 ?_
          have hPc : va_P D vwCl [(q_71, .inr (0, [.ref q_72, .int 0, .int 0, .int 0])), (q_72, .inl (g 5, 1, .inl (va_cpy (upd (fun _ => 0) (0 : Int32).toNatClampNeg (vp_nar .byte p0.toInt8.toInt32)) (fun _ => 0) (0 : Int32).toNatClampNeg (0 : Int32).toNatClampNeg (1 : Int32).toNatClampNeg)))] _ := hP.sub (ws' := [(q_71, .inr (0, [.ref q_72, .int 0, .int 0, .int 0])), (q_72, .inl (g 5, 1, .inl (va_cpy (upd (fun _ => 0) (0 : Int32).toNatClampNeg (vp_nar .byte p0.toInt8.toInt32)) (fun _ => 0) (0 : Int32).toNatClampNeg (0 : Int32).toNatClampNeg (1 : Int32).toNatClampNeg)))]) [2, 4] rfl
          have hDc : va_D (fun q => z0 ≤ q) [(q_71, .inr (0, [.ref q_72, .int 0, .int 0, .int 0])), (q_72, .inl (g 5, 1, .inl (va_cpy (upd (fun _ => 0) (0 : Int32).toNatClampNeg (vp_nar .byte p0.toInt8.toInt32)) (fun _ => 0) (0 : Int32).toNatClampNeg (0 : Int32).toNatClampNeg (1 : Int32).toNatClampNeg)))] := (hD.to hAz).pick (ws' := [(q_71, .inr (0, [.ref q_72, .int 0, .int 0, .int 0])), (q_72, .inl (g 5, 1, .inl (va_cpy (upd (fun _ => 0) (0 : Int32).toNatClampNeg (vp_nar .byte p0.toInt8.toInt32)) (fun _ => 0) (0 : Int32).toNatClampNeg (0 : Int32).toNatClampNeg (1 : Int32).toNatClampNeg)))]) [2, 4] (by decide) rfl
          have hFc := AnA (ws := [((a 200), f_m a g)]) hS.1
          refine va_calli (va_runV (As := []) (rest := []) ⟨hx, hb, hml, hown, ht⟩ (k_J0_length_8abf5_v6 l D g z0 _ a q_71 q_71 q_72 (va_cpy (upd (fun _ => 0) (0 : Int32).toNatClampNeg (vp_nar .byte p0.toInt8.toInt32)) (fun _ => 0) (0 : Int32).toNatClampNeg (0 : Int32).toNatClampNeg (1 : Int32).toNatClampNeg) (fit_cpy (fit_upd (fun _ => by decide)) (fun _ => by decide))) (cwV 0 ht (gV w_492 w_402 w_403 w_394 w_401) rfl rfl rfl (by decide +kernel) (le2 rfl rfl)) ⟨PP.blind, va_recv hK.1 hP (ci := 0) (q0 := 2) rfl rfl, PP.mk' hK hZ hz hAz hS hPc hDc⟩ rfl rfl hl.1 rfl (lv_room (Nat.le_of_ble_eq_true rfl)) dX15_march_69 (le2 rfl rfl)) hS (fun q _ h => hFc q h) hFc (fun r u t H locs ht1 hvm hw hB hz1 hk1 hS => ?_)
          obtain ⟨rfl, hw⟩ := hw
          have hP := ro1 hP hk1
          have hP9 := hP.sub (ws' := [((a 200), .inr (21, [.int 0, .ref (a 201), .ref (a 202), .ref (a 203), .ref (a 204), .ref (a 205), .ref (a 206), .int 0, .int 0, .int 0, .int 0, .ref (a 208), .ref (a 209), .ref (a 210), .ref (a 211), .ref (a 212), .int 4, .int 12, .int (-1), .int 0, .ref q_71, .ref (a 213), .int 0, .int 97, .ref (a 214), .ref (a 215), .ref (a 207), .null, .int 0]))]) [0] rfl
          have hD9 := hD.sub (ws' := [((a 200), .inr (21, [.int 0, .ref (a 201), .ref (a 202), .ref (a 203), .ref (a 204), .ref (a 205), .ref (a 206), .int 0, .int 0, .int 0, .int 0, .ref (a 208), .ref (a 209), .ref (a 210), .ref (a 211), .ref (a 212), .int 4, .int 12, .int (-1), .int 0, .ref q_71, .ref (a 213), .int 0, .int 97, .ref (a 214), .ref (a 215), .ref (a 207), .null, .int 0]))]) [0] (by decide) rfl
          refine W.widen (k := 4) (n := 25) (Nat.le_of_ble_eq_true rfl) (Nat.le_of_ble_eq_true rfl) ?_
          exact W.iret (v := 1) hx hb hr (fun t ht9 hW9 => ⟨⟨1, (0, q_71), rfl, (Or.inr (Or.inr (Or.inr (Or.inr (Or.inr (Or.inr ⟨rfl, rfl, c_65⟩)))))), ⟨(by rw [ht9]; exact hP9), hD9⟩⟩, hS.F ht9⟩) hS.2.2 dX15_march_72 hlocks
        · exact absurd c_68 (by decide)
      · exact absurd c_67 (by decide)
    · exact absurd c_66 (by decide)
set_option maxHeartbeats 4000000 in
set_option maxRecDepth 100000 in
theorem k_X15_thrown_v5 (l : Launch) (D : va_G) (g : Nat → ClassId) (z0 sz : Nat) (a : Nat → Nat) (e0 : Nat) : Met l yX15_thrown (.code yX15_thrown cX15_thrown 1 (some .int) :: TG) (rmk 0 0 0 0) (va_Pc [.ref (a 200)] (PP D g z0 sz [((a 200), .inr (21, [.int 1, .ref (a 201), .ref (a 202), .ref (a 203), .ref (a 204), .ref (a 205), .ref (a 206), .int 0, .int 0, .int 0, .int 0, .ref (a 208), .ref (a 209), .ref (a 210), .ref (a 211), .ref (a 212), .int 4, .int 12, .int (-1), .int 0, .ref e0, .ref (a 213), .int 0, .int 97, .ref (a 214), .ref (a 215), .ref (a 207), .null, .int 0]))])) (va_Qi (fun (r : Int32) (u : Unit) => (r = 1) ∧ True) (fun (u : Unit) (t : State) => va_P D vwCl [((a 200), .inr (21, [.int 1, .ref (a 201), .ref (a 202), .ref (a 203), .ref (a 204), .ref (a 205), .ref (a 206), .int 0, .int 0, .int 0, .int 0, .ref (a 208), .ref (a 209), .ref (a 210), .ref (a 211), .ref (a 212), .int 4, .int 12, .int (-1), .int 0, .ref e0, .ref (a 213), .int 0, .int 97, .ref (a 214), .ref (a 215), .ref (a 207), .null, .int 0]))] t.heap ∧ va_D (va_A [((a 200), .inr (21, [.int 1, .ref (a 201), .ref (a 202), .ref (a 203), .ref (a 204), .ref (a 205), .ref (a 206), .int 0, .int 0, .int 0, .int 0, .ref (a 208), .ref (a 209), .ref (a 210), .ref (a 211), .ref (a 212), .int 4, .int 12, .int (-1), .int 0, .ref e0, .ref (a 213), .int 0, .int 97, .ref (a 214), .ref (a 215), .ref (a 207), .null, .int 0]))] sz) [((a 200), .inr (21, [.int 1, .ref (a 201), .ref (a 202), .ref (a 203), .ref (a 204), .ref (a 205), .ref (a 206), .int 0, .int 0, .int 0, .int 0, .ref (a 208), .ref (a 209), .ref (a 210), .ref (a 211), .ref (a 212), .int 4, .int 12, .int (-1), .int 0, .ref e0, .ref (a 213), .int 0, .int 97, .ref (a 214), .ref (a 215), .ref (a 207), .null, .int 0]))]) (va_A [((a 200), .inr (21, [.int 1, .ref (a 201), .ref (a 202), .ref (a 203), .ref (a 204), .ref (a 205), .ref (a 206), .int 0, .int 0, .int 0, .int 0, .ref (a 208), .ref (a 209), .ref (a 210), .ref (a 211), .ref (a 212), .int 4, .int 12, .int (-1), .int 0, .ref e0, .ref (a 213), .int 0, .int 97, .ref (a 214), .ref (a 215), .ref (a 207), .null, .int 0]))] sz)) 0 0 (va_A [((a 200), .inr (21, [.int 1, .ref (a 201), .ref (a 202), .ref (a 203), .ref (a 204), .ref (a 205), .ref (a 206), .int 0, .int 0, .int 0, .int 0, .ref (a 208), .ref (a 209), .ref (a 210), .ref (a 211), .ref (a 212), .int 4, .int 12, .int (-1), .int 0, .ref e0, .ref (a 213), .int 0, .int 97, .ref (a 214), .ref (a 215), .ref (a 207), .null, .int 0]))] sz) := by
  refine met0 (cc := cX15_thrown) (n := 1) (by decide) (Nat.le_of_ble_eq_true rfl) ?_
  intro p e s m args below meth c hx hb hr hml hown ht hlocks hnm hP0 hD0 hK hZ hsz hz ls hl
  subst hsz
  have hA : ∀ q : Nat, s.heap.size ≤ q → va_A [((a 200), .inr (21, [.int 1, .ref (a 201), .ref (a 202), .ref (a 203), .ref (a 204), .ref (a 205), .ref (a 206), .int 0, .int 0, .int 0, .int 0, .ref (a 208), .ref (a 209), .ref (a 210), .ref (a 211), .ref (a 212), .int 4, .int 12, .int (-1), .int 0, .ref e0, .ref (a 213), .int 0, .int 97, .ref (a 214), .ref (a 215), .ref (a 207), .null, .int 0]))] s.heap.size q := Anw
  have hAz : ∀ q, va_A [((a 200), .inr (21, [.int 1, .ref (a 201), .ref (a 202), .ref (a 203), .ref (a 204), .ref (a 205), .ref (a 206), .int 0, .int 0, .int 0, .int 0, .ref (a 208), .ref (a 209), .ref (a 210), .ref (a 211), .ref (a 212), .int 4, .int 12, .int (-1), .int 0, .ref e0, .ref (a 213), .int 0, .int 97, .ref (a 214), .ref (a 215), .ref (a 207), .null, .int 0]))] s.heap.size q → z0 ≤ q := Awz hz hD0
  have hS : va_S (va_A [((a 200), .inr (21, [.int 1, .ref (a 201), .ref (a 202), .ref (a 203), .ref (a 204), .ref (a 205), .ref (a 206), .int 0, .int 0, .int 0, .int 0, .ref (a 208), .ref (a 209), .ref (a 210), .ref (a 211), .ref (a 212), .int 4, .int 12, .int (-1), .int 0, .ref e0, .ref (a 213), .int 0, .int 97, .ref (a 214), .ref (a 215), .ref (a 207), .null, .int 0]))] s.heap.size) s.heap s.heap [] := va_S.rf
  have hD : va_D (va_A [((a 200), .inr (21, [.int 1, .ref (a 201), .ref (a 202), .ref (a 203), .ref (a 204), .ref (a 205), .ref (a 206), .int 0, .int 0, .int 0, .int 0, .ref (a 208), .ref (a 209), .ref (a 210), .ref (a 211), .ref (a 212), .int 4, .int 12, .int (-1), .int 0, .ref e0, .ref (a 213), .int 0, .int 97, .ref (a 214), .ref (a 215), .ref (a 207), .null, .int 0]))] s.heap.size) [((a 200), .inr (21, [.int 1, .ref (a 201), .ref (a 202), .ref (a 203), .ref (a 204), .ref (a 205), .ref (a 206), .int 0, .int 0, .int 0, .int 0, .ref (a 208), .ref (a 209), .ref (a 210), .ref (a 211), .ref (a 212), .int 4, .int 12, .int (-1), .int 0, .ref e0, .ref (a 213), .int 0, .int 97, .ref (a 214), .ref (a 215), .ref (a 207), .null, .int 0]))] := hD0.self
  have hP : va_P D vwCl [((a 200), .inr (21, [.int 1, .ref (a 201), .ref (a 202), .ref (a 203), .ref (a 204), .ref (a 205), .ref (a 206), .int 0, .int 0, .int 0, .int 0, .ref (a 208), .ref (a 209), .ref (a 210), .ref (a 211), .ref (a 212), .int 4, .int 12, .int (-1), .int 0, .ref e0, .ref (a 213), .int 0, .int 97, .ref (a 214), .ref (a 215), .ref (a 207), .null, .int 0]))] s.heap := hP0
  have hl : lv_has ls 1 [(0, .ref (a 200))] := hl
  refine lv_aload_n hx hb dX15_thrown_0 rfl (lv_at hl 0 rfl) ?_
  refine va_get (D := D) (ci := 21) (v := .int 1) (C := RX15) (T := TX15) (N := 29) hx hb ht in_X15 hown hK.1 hP 0 rfl rfl 0 (by decide) (ht _ w_303) (fun _ h9 => h9) rfl dX15_thrown_1 ?_
  have hP9 := hP.sub (ws' := [((a 200), .inr (21, [.int 1, .ref (a 201), .ref (a 202), .ref (a 203), .ref (a 204), .ref (a 205), .ref (a 206), .int 0, .int 0, .int 0, .int 0, .ref (a 208), .ref (a 209), .ref (a 210), .ref (a 211), .ref (a 212), .int 4, .int 12, .int (-1), .int 0, .ref e0, .ref (a 213), .int 0, .int 97, .ref (a 214), .ref (a 215), .ref (a 207), .null, .int 0]))]) [0] rfl
  have hD9 := hD.sub (ws' := [((a 200), .inr (21, [.int 1, .ref (a 201), .ref (a 202), .ref (a 203), .ref (a 204), .ref (a 205), .ref (a 206), .int 0, .int 0, .int 0, .int 0, .ref (a 208), .ref (a 209), .ref (a 210), .ref (a 211), .ref (a 212), .int 4, .int 12, .int (-1), .int 0, .ref e0, .ref (a 213), .int 0, .int 97, .ref (a 214), .ref (a 215), .ref (a 207), .null, .int 0]))]) [0] (by decide) rfl
  refine W.widen (k := 0) (n := 0) (Nat.le_of_ble_eq_true rfl) (Nat.le_of_ble_eq_true rfl) ?_
  exact W.iret (v := 1) hx hb hr (fun t ht9 hW9 => ⟨⟨1, (), rfl, ⟨rfl, trivial⟩, ⟨(by rw [ht9]; exact hP9), hD9⟩⟩, hS.F ht9⟩) hS.2.2 dX15_thrown_4 hlocks
set_option maxHeartbeats 4000000 in
set_option maxRecDepth 100000 in
theorem k_X15_thrown_v6 (l : Launch) (D : va_G) (g : Nat → ClassId) (z0 sz : Nat) (a : Nat → Nat) (e0 : Nat) : Met l yX15_thrown (.code yX15_thrown cX15_thrown 1 (some .int) :: TG) (rmk 0 0 0 0) (va_Pc [.ref (a 200)] (PP D g z0 sz [((a 200), .inr (21, [.int 0, .ref (a 201), .ref (a 202), .ref (a 203), .ref (a 204), .ref (a 205), .ref (a 206), .int 0, .int 0, .int 0, .int 0, .ref (a 208), .ref (a 209), .ref (a 210), .ref (a 211), .ref (a 212), .int 4, .int 12, .int (-1), .int 0, .ref e0, .ref (a 213), .int 0, .int 97, .ref (a 214), .ref (a 215), .ref (a 207), .null, .int 0]))])) (va_Qi (fun (r : Int32) (u : Unit) => (r = 0) ∧ True) (fun (u : Unit) (t : State) => va_P D vwCl [((a 200), .inr (21, [.int 0, .ref (a 201), .ref (a 202), .ref (a 203), .ref (a 204), .ref (a 205), .ref (a 206), .int 0, .int 0, .int 0, .int 0, .ref (a 208), .ref (a 209), .ref (a 210), .ref (a 211), .ref (a 212), .int 4, .int 12, .int (-1), .int 0, .ref e0, .ref (a 213), .int 0, .int 97, .ref (a 214), .ref (a 215), .ref (a 207), .null, .int 0]))] t.heap ∧ va_D (va_A [((a 200), .inr (21, [.int 0, .ref (a 201), .ref (a 202), .ref (a 203), .ref (a 204), .ref (a 205), .ref (a 206), .int 0, .int 0, .int 0, .int 0, .ref (a 208), .ref (a 209), .ref (a 210), .ref (a 211), .ref (a 212), .int 4, .int 12, .int (-1), .int 0, .ref e0, .ref (a 213), .int 0, .int 97, .ref (a 214), .ref (a 215), .ref (a 207), .null, .int 0]))] sz) [((a 200), .inr (21, [.int 0, .ref (a 201), .ref (a 202), .ref (a 203), .ref (a 204), .ref (a 205), .ref (a 206), .int 0, .int 0, .int 0, .int 0, .ref (a 208), .ref (a 209), .ref (a 210), .ref (a 211), .ref (a 212), .int 4, .int 12, .int (-1), .int 0, .ref e0, .ref (a 213), .int 0, .int 97, .ref (a 214), .ref (a 215), .ref (a 207), .null, .int 0]))]) (va_A [((a 200), .inr (21, [.int 0, .ref (a 201), .ref (a 202), .ref (a 203), .ref (a 204), .ref (a 205), .ref (a 206), .int 0, .int 0, .int 0, .int 0, .ref (a 208), .ref (a 209), .ref (a 210), .ref (a 211), .ref (a 212), .int 4, .int 12, .int (-1), .int 0, .ref e0, .ref (a 213), .int 0, .int 97, .ref (a 214), .ref (a 215), .ref (a 207), .null, .int 0]))] sz)) 0 0 (va_A [((a 200), .inr (21, [.int 0, .ref (a 201), .ref (a 202), .ref (a 203), .ref (a 204), .ref (a 205), .ref (a 206), .int 0, .int 0, .int 0, .int 0, .ref (a 208), .ref (a 209), .ref (a 210), .ref (a 211), .ref (a 212), .int 4, .int 12, .int (-1), .int 0, .ref e0, .ref (a 213), .int 0, .int 97, .ref (a 214), .ref (a 215), .ref (a 207), .null, .int 0]))] sz) := by
  refine met0 (cc := cX15_thrown) (n := 1) (by decide) (Nat.le_of_ble_eq_true rfl) ?_
  intro p e s m args below meth c hx hb hr hml hown ht hlocks hnm hP0 hD0 hK hZ hsz hz ls hl
  subst hsz
  have hA : ∀ q : Nat, s.heap.size ≤ q → va_A [((a 200), .inr (21, [.int 0, .ref (a 201), .ref (a 202), .ref (a 203), .ref (a 204), .ref (a 205), .ref (a 206), .int 0, .int 0, .int 0, .int 0, .ref (a 208), .ref (a 209), .ref (a 210), .ref (a 211), .ref (a 212), .int 4, .int 12, .int (-1), .int 0, .ref e0, .ref (a 213), .int 0, .int 97, .ref (a 214), .ref (a 215), .ref (a 207), .null, .int 0]))] s.heap.size q := Anw
  have hAz : ∀ q, va_A [((a 200), .inr (21, [.int 0, .ref (a 201), .ref (a 202), .ref (a 203), .ref (a 204), .ref (a 205), .ref (a 206), .int 0, .int 0, .int 0, .int 0, .ref (a 208), .ref (a 209), .ref (a 210), .ref (a 211), .ref (a 212), .int 4, .int 12, .int (-1), .int 0, .ref e0, .ref (a 213), .int 0, .int 97, .ref (a 214), .ref (a 215), .ref (a 207), .null, .int 0]))] s.heap.size q → z0 ≤ q := Awz hz hD0
  have hS : va_S (va_A [((a 200), .inr (21, [.int 0, .ref (a 201), .ref (a 202), .ref (a 203), .ref (a 204), .ref (a 205), .ref (a 206), .int 0, .int 0, .int 0, .int 0, .ref (a 208), .ref (a 209), .ref (a 210), .ref (a 211), .ref (a 212), .int 4, .int 12, .int (-1), .int 0, .ref e0, .ref (a 213), .int 0, .int 97, .ref (a 214), .ref (a 215), .ref (a 207), .null, .int 0]))] s.heap.size) s.heap s.heap [] := va_S.rf
  have hD : va_D (va_A [((a 200), .inr (21, [.int 0, .ref (a 201), .ref (a 202), .ref (a 203), .ref (a 204), .ref (a 205), .ref (a 206), .int 0, .int 0, .int 0, .int 0, .ref (a 208), .ref (a 209), .ref (a 210), .ref (a 211), .ref (a 212), .int 4, .int 12, .int (-1), .int 0, .ref e0, .ref (a 213), .int 0, .int 97, .ref (a 214), .ref (a 215), .ref (a 207), .null, .int 0]))] s.heap.size) [((a 200), .inr (21, [.int 0, .ref (a 201), .ref (a 202), .ref (a 203), .ref (a 204), .ref (a 205), .ref (a 206), .int 0, .int 0, .int 0, .int 0, .ref (a 208), .ref (a 209), .ref (a 210), .ref (a 211), .ref (a 212), .int 4, .int 12, .int (-1), .int 0, .ref e0, .ref (a 213), .int 0, .int 97, .ref (a 214), .ref (a 215), .ref (a 207), .null, .int 0]))] := hD0.self
  have hP : va_P D vwCl [((a 200), .inr (21, [.int 0, .ref (a 201), .ref (a 202), .ref (a 203), .ref (a 204), .ref (a 205), .ref (a 206), .int 0, .int 0, .int 0, .int 0, .ref (a 208), .ref (a 209), .ref (a 210), .ref (a 211), .ref (a 212), .int 4, .int 12, .int (-1), .int 0, .ref e0, .ref (a 213), .int 0, .int 97, .ref (a 214), .ref (a 215), .ref (a 207), .null, .int 0]))] s.heap := hP0
  have hl : lv_has ls 1 [(0, .ref (a 200))] := hl
  refine lv_aload_n hx hb dX15_thrown_0 rfl (lv_at hl 0 rfl) ?_
  refine va_get (D := D) (ci := 21) (v := .int 0) (C := RX15) (T := TX15) (N := 29) hx hb ht in_X15 hown hK.1 hP 0 rfl rfl 0 (by decide) (ht _ w_303) (fun _ h9 => h9) rfl dX15_thrown_1 ?_
  have hP9 := hP.sub (ws' := [((a 200), .inr (21, [.int 0, .ref (a 201), .ref (a 202), .ref (a 203), .ref (a 204), .ref (a 205), .ref (a 206), .int 0, .int 0, .int 0, .int 0, .ref (a 208), .ref (a 209), .ref (a 210), .ref (a 211), .ref (a 212), .int 4, .int 12, .int (-1), .int 0, .ref e0, .ref (a 213), .int 0, .int 97, .ref (a 214), .ref (a 215), .ref (a 207), .null, .int 0]))]) [0] rfl
  have hD9 := hD.sub (ws' := [((a 200), .inr (21, [.int 0, .ref (a 201), .ref (a 202), .ref (a 203), .ref (a 204), .ref (a 205), .ref (a 206), .int 0, .int 0, .int 0, .int 0, .ref (a 208), .ref (a 209), .ref (a 210), .ref (a 211), .ref (a 212), .int 4, .int 12, .int (-1), .int 0, .ref e0, .ref (a 213), .int 0, .int 97, .ref (a 214), .ref (a 215), .ref (a 207), .null, .int 0]))]) [0] (by decide) rfl
  refine W.widen (k := 0) (n := 0) (Nat.le_of_ble_eq_true rfl) (Nat.le_of_ble_eq_true rfl) ?_
  exact W.iret (v := 0) hx hb hr (fun t ht9 hW9 => ⟨⟨0, (), rfl, ⟨rfl, trivial⟩, ⟨(by rw [ht9]; exact hP9), hD9⟩⟩, hS.F ht9⟩) hS.2.2 dX15_thrown_4 hlocks
set_option maxHeartbeats 4000000 in
set_option maxRecDepth 100000 in
theorem lw_case_52 {p : Program} {l : Launch} {e : Env} {s : State} {m : MethodId} {below : List Frame} {meth : Method} {c : Code} {H : Heap} {locs : List Loc} {ls : Array Slot} {Q : State → Prop} {D : va_G} {g : Nat → ClassId} {z0 b : Nat} {xs : Nat → Int32} {a : Nat → Nat} {o1 o2 : Nat} (hfl : l.stackTraces = false) (hx : p.tables.exec = Jvm.exec) (hb : c.code = cL_law) (hml : c.maxLocals = 9) (hown : s.vm.findClass RL = some m.cls) (ht : ∀ w ∈ TG, w.before #[Value.ref b] s = true) (hX : va_X b 6 xs s s.heap) (hbl : b < s.heap.size) (hbA : ¬ va_A [] s.heap.size b) (hK : KK D g s) (hZ : ZZ g z0 s) (hz : z0 ≤ s.heap.size) (hAz : ∀ q, va_A [] s.heap.size q → z0 ≤ q) (hP : va_P D vwCl (lwW a g o1 o2) H) (hD : va_D (va_A [] s.heap.size) (lwW a g o1 o2)) (hS : va_S (va_A [] s.heap.size) s.heap H locs) (hl : lv_has ls 9 [(0, .ref b), (1, .ref (a 0)), (2, .ref (a 200)), (3, .ref o1), (4, .ref o2), (5, .int 0)])
    (kk : ∀ (H : Heap) (locs : List Loc) (ls : Array Slot), va_S (va_A [] s.heap.size) s.heap H locs → lv_has ls 9 [(5, .int 0), (0, .ref b)] → W p l e room_1 s m #[Value.ref b] below meth c H locs (200 + 300) (8000 + 2000) Q (F0 m 4264 ls [])) :
    W p l e room_1 s m #[Value.ref b] below meth c H locs 200 8000 Q (F0 m 3128 ls []) := by
  have hA : ∀ q : Nat, s.heap.size ≤ q → va_A [] s.heap.size q := Anw
  have hP := hP.sub (ws' := [((a 0), f_x a), ((a 59), .inl (g 2, 24, .inl (fun _ => 0))), ((a 9), f_memory a), ((a 200), f_m a g), (o1, .inl (g 1, 1, .inr (.inl (fun _ => 0))))]) [0, 16, 18, 26, 61] rfl
  have hD := hD.sub (ws' := [((a 0), f_x a), ((a 59), .inl (g 2, 24, .inl (fun _ => 0))), ((a 9), f_memory a), ((a 200), f_m a g), (o1, .inl (g 1, 1, .inr (.inl (fun _ => 0))))]) [0, 16, 18, 26, 61] (by decide) rfl
  refine lv_aload_n hx hb dL_law_3128 rfl (lv_at hl 1 rfl) ?_
  refine lv_aload_n hx hb dL_law_3129 rfl (lv_at hl 0 rfl) ?_
  refine lv_iload hx hb dL_law_3130 (lv_at hl 5 rfl) ?_
  refine lv_iconst (v := 1) hx hb dL_law_3132 (by decide) ?_
  refine lv_iadd hx hb dL_law_3133 ?_
  refine r_topi (v := 1) (by decide) ?_
  refine va_sld hx hb hX hbl hbA hS (by unfold vp_in; decide) dL_law_3134 ?_
  refine r_topi (v := xs 1) (congrArg xs (by decide)) ?_
  refine lv_i2c (v := ((xs 1).toUInt32 % 65536).toInt32) hx hb dL_law_3135 rfl ?_
  refine lv_aload_n hx hb dL_law_3136 rfl (lv_at hl 3 rfl) ?_
  have hPc : va_P D vwCl [(o1, .inl (g 1, 1, .inr (.inl (fun _ => 0)))), ((a 0), f_x a), ((a 9), f_memory a), ((a 59), .inl (g 2, 24, .inl (fun _ => 0)))] _ := hP.sub (ws' := [(o1, .inl (g 1, 1, .inr (.inl (fun _ => 0)))), ((a 0), f_x a), ((a 9), f_memory a), ((a 59), .inl (g 2, 24, .inl (fun _ => 0)))]) [4, 0, 2, 1] rfl
  have hDc : va_D (fun q => z0 ≤ q) [(o1, .inl (g 1, 1, .inr (.inl (fun _ => 0)))), ((a 0), f_x a), ((a 9), f_memory a), ((a 59), .inl (g 2, 24, .inl (fun _ => 0)))] := (hD.to hAz).pick (ws' := [(o1, .inl (g 1, 1, .inr (.inl (fun _ => 0)))), ((a 0), f_x a), ((a 9), f_memory a), ((a 59), .inl (g 2, 24, .inl (fun _ => 0)))]) [4, 0, 2, 1] (by decide) rfl
  have hFc := va_free (wc := [(o1, .inl (g 1, 1, .inr (.inl (fun _ => 0)))), ((a 0), f_x a), ((a 9), f_memory a), ((a 59), .inl (g 2, 24, .inl (fun _ => 0)))]) hD hS hA [4, 0, 2, 1] rfl
  refine va_calli (vx_runSW (As := [.ref (a 0), .int (((xs 1).toUInt32 % 65536).toInt32), .ref o1]) (rest := []) ⟨hx, hb, hml, hown, ht⟩ (k_L_march l hfl D g z0 _ a (((xs 1).toUInt32 % 65536).toInt32) o1 (isC_i2c _)) (vx_cwSW 3 ht (gS w_1396 w_1398 w_767 w_1397) rfl rfl rfl (by decide +kernel) (le2 rfl rfl)) ⟨PP.blind, PP.mk' hK hZ hz hAz hS hPc hDc⟩ rfl rfl hl.1 rfl (lv_room (Nat.le_of_ble_eq_true rfl)) dL_law_3137 (le2 rfl rfl)) hS (fun q _ h => hFc q h) hFc (fun r u t H locs ht1 hvm hw hB hz1 hk1 hS => ?_)
  rcases hw with hw | hw
  · obtain ⟨rfl, rfl, hw⟩ := hw
    obtain ⟨c_1, c_2, c_3, c_4, c_5, c_6⟩ := hw
    obtain ⟨hP1, hD1⟩ := hB
    rw [ht1] at hP1
    obtain ⟨hP, hD⟩ := va_join (wr := [((a 200), f_m a g)]) (w1 := [(o1, .inl (g 1, 1, .inr (.inl (fun _ => 0))))]) hP hD [4, 0, 2, 1] [3] rfl rfl (by decide) (by decide) hk1 hFc hP1 hD1
    have hP : va_P D vwCl [((a 200), f_m a g), (o1, .inl (g 1, 1, .inr (.inl (fun _ => 0))))] H := hP
    have hD : va_D (va_A [] s.heap.size) [((a 200), f_m a g), (o1, .inl (g 1, 1, .inr (.inl (fun _ => 0))))] := hD
    refine lv_istore (lv' := [(6, .int 1), (0, .ref b), (1, .ref (a 0)), (2, .ref (a 200)), (3, .ref o1), (4, .ref o2), (5, .int 0)]) hx hb dL_law_3140 hl (by decide) rfl (fun ls hl => ?_)
    refine lv_aload_n hx hb dL_law_3142 rfl (lv_at hl 3 rfl) ?_
    refine lv_aload_n hx hb dL_law_3143 rfl (lv_at hl 1 rfl) ?_
    refine lv_iload hx hb dL_law_3144 (lv_at hl 6 rfl) ?_
    refine lv_iconst (v := 1) hx hb dL_law_3146 (by decide) ?_
    refine lv_iadd hx hb dL_law_3147 ?_
    refine r_topi (v := 1) (by decide) ?_
    refine va_sld hx hb hX hbl hbA hS (by unfold vp_in; decide) dL_law_3148 ?_
    refine r_topi (v := xs 1) (congrArg xs (by decide)) ?_
    refine lv_i2c (v := ((xs 1).toUInt32 % 65536).toInt32) hx hb dL_law_3149 rfl ?_
    have hPc : va_P D vwCl [((a 200), f_m a g)] _ := hP.sub (ws' := [((a 200), f_m a g)]) [0] rfl
    have hDc : va_D (fun q => z0 ≤ q) [((a 200), f_m a g)] := (hD.to hAz).pick (ws' := [((a 200), f_m a g)]) [0] (by decide) rfl
    have hFc := va_free (wc := [((a 200), f_m a g)]) hD hS hA [0] rfl
    refine va_calli (va_runV (As := [.int (((xs 1).toUInt32 % 65536).toInt32)]) (rest := []) ⟨hx, hb, hml, hown, ht⟩ (k_X15_march l D g z0 _ a (((xs 1).toUInt32 % 65536).toInt32) (isC_i2c _)) (cwV 1 ht (gV w_1399 w_1401 w_1402 w_334 w_1400) rfl rfl rfl (by decide +kernel) (le2 rfl rfl)) ⟨PP.blind, va_recv hK.1 hP (ci := 21) (q0 := 0) rfl rfl, PP.mk' hK hZ hz hAz hS hPc hDc⟩ rfl rfl hl.1 rfl (lv_room (Nat.le_of_ble_eq_true rfl)) dL_law_3150 (le2 rfl rfl)) hS (fun q _ h => hFc q h) hFc (fun r u t H locs ht1 hvm hw hB hz1 hk1 hS => ?_)
    obtain ⟨u0, q_7⟩ := u
    rcases hw with hw | hw | hw | hw | hw | hw | hw
    · obtain ⟨rfl, rfl, hw⟩ := hw
      rcases hw with hw | hw | hw
      · obtain ⟨c_8, c_9, c_10, c_11, c_12, c_13⟩ := hw
        obtain ⟨hP1, hD1⟩ := hB
        rw [ht1] at hP1
        obtain ⟨hP, hD⟩ := va_join (wr := [(o1, .inl (g 1, 1, .inr (.inl (fun _ => 0))))]) (w1 := [((a 200), .inr (21, [.int 1, .ref (a 201), .ref (a 202), .ref (a 203), .ref (a 204), .ref (a 205), .ref (a 206), .int 0, .int 0, .int 0, .int 0, .ref (a 208), .ref (a 209), .ref (a 210), .ref (a 211), .ref (a 212), .int 4, .int 12, .int (-1), .int 0, .ref q_7, .ref (a 213), .int 0, .int 97, .ref (a 214), .ref (a 215), .ref (a 207), .null, .int 0]))]) hP hD [0] [1] rfl rfl (by decide) (by decide) hk1 hFc hP1 hD1
        have hP : va_P D vwCl [(o1, .inl (g 1, 1, .inr (.inl (fun _ => 0)))), ((a 200), .inr (21, [.int 1, .ref (a 201), .ref (a 202), .ref (a 203), .ref (a 204), .ref (a 205), .ref (a 206), .int 0, .int 0, .int 0, .int 0, .ref (a 208), .ref (a 209), .ref (a 210), .ref (a 211), .ref (a 212), .int 4, .int 12, .int (-1), .int 0, .ref q_7, .ref (a 213), .int 0, .int 97, .ref (a 214), .ref (a 215), .ref (a 207), .null, .int 0]))] H := hP
        have hD : va_D (va_A [] s.heap.size) [(o1, .inl (g 1, 1, .inr (.inl (fun _ => 0)))), ((a 200), .inr (21, [.int 1, .ref (a 201), .ref (a 202), .ref (a 203), .ref (a 204), .ref (a 205), .ref (a 206), .int 0, .int 0, .int 0, .int 0, .ref (a 208), .ref (a 209), .ref (a 210), .ref (a 211), .ref (a 212), .int 4, .int 12, .int (-1), .int 0, .ref q_7, .ref (a 213), .int 0, .int 97, .ref (a 214), .ref (a 215), .ref (a 207), .null, .int 0]))] := hD
        refine lv_istore (lv' := [(7, .int 0), (6, .int 1), (0, .ref b), (1, .ref (a 0)), (2, .ref (a 200)), (3, .ref o1), (4, .ref o2), (5, .int 0)]) hx hb dL_law_3153 hl (by decide) rfl (fun ls hl => ?_)
        refine lv_aload_n hx hb dL_law_3155 rfl (lv_at hl 4 rfl) ?_
        have hPc : va_P D vwCl [((a 200), .inr (21, [.int 1, .ref (a 201), .ref (a 202), .ref (a 203), .ref (a 204), .ref (a 205), .ref (a 206), .int 0, .int 0, .int 0, .int 0, .ref (a 208), .ref (a 209), .ref (a 210), .ref (a 211), .ref (a 212), .int 4, .int 12, .int (-1), .int 0, .ref q_7, .ref (a 213), .int 0, .int 97, .ref (a 214), .ref (a 215), .ref (a 207), .null, .int 0]))] _ := hP.sub (ws' := [((a 200), .inr (21, [.int 1, .ref (a 201), .ref (a 202), .ref (a 203), .ref (a 204), .ref (a 205), .ref (a 206), .int 0, .int 0, .int 0, .int 0, .ref (a 208), .ref (a 209), .ref (a 210), .ref (a 211), .ref (a 212), .int 4, .int 12, .int (-1), .int 0, .ref q_7, .ref (a 213), .int 0, .int 97, .ref (a 214), .ref (a 215), .ref (a 207), .null, .int 0]))]) [1] rfl
        have hDc : va_D (fun q => z0 ≤ q) [((a 200), .inr (21, [.int 1, .ref (a 201), .ref (a 202), .ref (a 203), .ref (a 204), .ref (a 205), .ref (a 206), .int 0, .int 0, .int 0, .int 0, .ref (a 208), .ref (a 209), .ref (a 210), .ref (a 211), .ref (a 212), .int 4, .int 12, .int (-1), .int 0, .ref q_7, .ref (a 213), .int 0, .int 97, .ref (a 214), .ref (a 215), .ref (a 207), .null, .int 0]))] := (hD.to hAz).pick (ws' := [((a 200), .inr (21, [.int 1, .ref (a 201), .ref (a 202), .ref (a 203), .ref (a 204), .ref (a 205), .ref (a 206), .int 0, .int 0, .int 0, .int 0, .ref (a 208), .ref (a 209), .ref (a 210), .ref (a 211), .ref (a 212), .int 4, .int 12, .int (-1), .int 0, .ref q_7, .ref (a 213), .int 0, .int 97, .ref (a 214), .ref (a 215), .ref (a 207), .null, .int 0]))]) [1] (by decide) rfl
        have hFc := va_free (wc := [((a 200), .inr (21, [.int 1, .ref (a 201), .ref (a 202), .ref (a 203), .ref (a 204), .ref (a 205), .ref (a 206), .int 0, .int 0, .int 0, .int 0, .ref (a 208), .ref (a 209), .ref (a 210), .ref (a 211), .ref (a 212), .int 4, .int 12, .int (-1), .int 0, .ref q_7, .ref (a 213), .int 0, .int 97, .ref (a 214), .ref (a 215), .ref (a 207), .null, .int 0]))]) hD hS hA [1] rfl
        refine va_calli (va_runV (As := []) (rest := []) ⟨hx, hb, hml, hown, ht⟩ (k_X15_thrown_v5 l D g z0 _ a q_7) (cwV 0 ht (gV w_772 w_774 w_775 w_334 w_773) rfl rfl rfl (by decide +kernel) (le2 rfl rfl)) ⟨PP.blind, va_recv hK.1 hP (ci := 21) (q0 := 1) rfl rfl, PP.mk' hK hZ hz hAz hS hPc hDc⟩ rfl rfl hl.1 rfl (lv_room (Nat.le_of_ble_eq_true rfl)) dL_law_3156 (le2 rfl rfl)) hS (fun q _ h => hFc q h) hFc (fun r u t H locs ht1 hvm hw hB hz1 hk1 hS => ?_)
        obtain ⟨rfl, hw⟩ := hw
        obtain ⟨hP1, hD1⟩ := hB
        rw [ht1] at hP1
        obtain ⟨hP, hD⟩ := va_join (wr := [(o1, .inl (g 1, 1, .inr (.inl (fun _ => 0))))]) (w1 := [((a 200), .inr (21, [.int 1, .ref (a 201), .ref (a 202), .ref (a 203), .ref (a 204), .ref (a 205), .ref (a 206), .int 0, .int 0, .int 0, .int 0, .ref (a 208), .ref (a 209), .ref (a 210), .ref (a 211), .ref (a 212), .int 4, .int 12, .int (-1), .int 0, .ref q_7, .ref (a 213), .int 0, .int 97, .ref (a 214), .ref (a 215), .ref (a 207), .null, .int 0]))]) hP hD [1] [0] rfl rfl (by decide) (by decide) hk1 hFc hP1 hD1
        have hP : va_P D vwCl [(o1, .inl (g 1, 1, .inr (.inl (fun _ => 0)))), ((a 200), .inr (21, [.int 1, .ref (a 201), .ref (a 202), .ref (a 203), .ref (a 204), .ref (a 205), .ref (a 206), .int 0, .int 0, .int 0, .int 0, .ref (a 208), .ref (a 209), .ref (a 210), .ref (a 211), .ref (a 212), .int 4, .int 12, .int (-1), .int 0, .ref q_7, .ref (a 213), .int 0, .int 97, .ref (a 214), .ref (a 215), .ref (a 207), .null, .int 0]))] H := hP
        have hD : va_D (va_A [] s.heap.size) [(o1, .inl (g 1, 1, .inr (.inl (fun _ => 0)))), ((a 200), .inr (21, [.int 1, .ref (a 201), .ref (a 202), .ref (a 203), .ref (a 204), .ref (a 205), .ref (a 206), .int 0, .int 0, .int 0, .int 0, .ref (a 208), .ref (a 209), .ref (a 210), .ref (a 211), .ref (a 212), .int 4, .int 12, .int (-1), .int 0, .ref q_7, .ref (a 213), .int 0, .int 97, .ref (a 214), .ref (a 215), .ref (a 207), .null, .int 0]))] := hD
        refine lv_iload hx hb dL_law_3159 (lv_at hl 1 rfl) ?_
        refine lv_icmp_eq (tgt := 3166) hx hb dL_law_3161 (by decide) (fun c_14 => ?_) (fun c_14 => ?_)
        · refine lv_iload hx hb dL_law_3166 (lv_at hl 1 rfl) ?_
          refine lv_if_ne (tgt := 3183) hx hb dL_law_3168 (by decide) (fun c_15 => ?_) (fun c_15 => ?_)
          · refine lv_goto (tgt := 4264) hx hb dL_law_3183 (by decide) ?_
            refine W.widen (k := 200 + 300) (n := 8000 + 2000) (Nat.le_of_ble_eq_true rfl) (Nat.le_of_ble_eq_true rfl) ?_
            exact kk _ _ _ hS (lv_sub hl [7, 2] rfl)
          · exact absurd c_15 (by decide)
        · exact absurd c_14 (by decide)
      · obtain ⟨c_16, c_17, c_18, c_19, c_20, c_21⟩ := hw
        obtain ⟨hP1, hD1⟩ := hB
        rw [ht1] at hP1
        obtain ⟨hP, hD⟩ := va_join (wr := [(o1, .inl (g 1, 1, .inr (.inl (fun _ => 0))))]) (w1 := [((a 200), .inr (21, [.int 1, .ref (a 201), .ref (a 202), .ref (a 203), .ref (a 204), .ref (a 205), .ref (a 206), .int 0, .int 0, .int 0, .int 0, .ref (a 208), .ref (a 209), .ref (a 210), .ref (a 211), .ref (a 212), .int 4, .int 12, .int (-1), .int 0, .ref q_7, .ref (a 213), .int 0, .int 97, .ref (a 214), .ref (a 215), .ref (a 207), .null, .int 0]))]) hP hD [0] [1] rfl rfl (by decide) (by decide) hk1 hFc hP1 hD1
        have hP : va_P D vwCl [(o1, .inl (g 1, 1, .inr (.inl (fun _ => 0)))), ((a 200), .inr (21, [.int 1, .ref (a 201), .ref (a 202), .ref (a 203), .ref (a 204), .ref (a 205), .ref (a 206), .int 0, .int 0, .int 0, .int 0, .ref (a 208), .ref (a 209), .ref (a 210), .ref (a 211), .ref (a 212), .int 4, .int 12, .int (-1), .int 0, .ref q_7, .ref (a 213), .int 0, .int 97, .ref (a 214), .ref (a 215), .ref (a 207), .null, .int 0]))] H := hP
        have hD : va_D (va_A [] s.heap.size) [(o1, .inl (g 1, 1, .inr (.inl (fun _ => 0)))), ((a 200), .inr (21, [.int 1, .ref (a 201), .ref (a 202), .ref (a 203), .ref (a 204), .ref (a 205), .ref (a 206), .int 0, .int 0, .int 0, .int 0, .ref (a 208), .ref (a 209), .ref (a 210), .ref (a 211), .ref (a 212), .int 4, .int 12, .int (-1), .int 0, .ref q_7, .ref (a 213), .int 0, .int 97, .ref (a 214), .ref (a 215), .ref (a 207), .null, .int 0]))] := hD
        refine lv_istore (lv' := [(7, .int 0), (6, .int 1), (0, .ref b), (1, .ref (a 0)), (2, .ref (a 200)), (3, .ref o1), (4, .ref o2), (5, .int 0)]) hx hb dL_law_3153 hl (by decide) rfl (fun ls hl => ?_)
        refine lv_aload_n hx hb dL_law_3155 rfl (lv_at hl 4 rfl) ?_
        have hPc : va_P D vwCl [((a 200), .inr (21, [.int 1, .ref (a 201), .ref (a 202), .ref (a 203), .ref (a 204), .ref (a 205), .ref (a 206), .int 0, .int 0, .int 0, .int 0, .ref (a 208), .ref (a 209), .ref (a 210), .ref (a 211), .ref (a 212), .int 4, .int 12, .int (-1), .int 0, .ref q_7, .ref (a 213), .int 0, .int 97, .ref (a 214), .ref (a 215), .ref (a 207), .null, .int 0]))] _ := hP.sub (ws' := [((a 200), .inr (21, [.int 1, .ref (a 201), .ref (a 202), .ref (a 203), .ref (a 204), .ref (a 205), .ref (a 206), .int 0, .int 0, .int 0, .int 0, .ref (a 208), .ref (a 209), .ref (a 210), .ref (a 211), .ref (a 212), .int 4, .int 12, .int (-1), .int 0, .ref q_7, .ref (a 213), .int 0, .int 97, .ref (a 214), .ref (a 215), .ref (a 207), .null, .int 0]))]) [1] rfl
        have hDc : va_D (fun q => z0 ≤ q) [((a 200), .inr (21, [.int 1, .ref (a 201), .ref (a 202), .ref (a 203), .ref (a 204), .ref (a 205), .ref (a 206), .int 0, .int 0, .int 0, .int 0, .ref (a 208), .ref (a 209), .ref (a 210), .ref (a 211), .ref (a 212), .int 4, .int 12, .int (-1), .int 0, .ref q_7, .ref (a 213), .int 0, .int 97, .ref (a 214), .ref (a 215), .ref (a 207), .null, .int 0]))] := (hD.to hAz).pick (ws' := [((a 200), .inr (21, [.int 1, .ref (a 201), .ref (a 202), .ref (a 203), .ref (a 204), .ref (a 205), .ref (a 206), .int 0, .int 0, .int 0, .int 0, .ref (a 208), .ref (a 209), .ref (a 210), .ref (a 211), .ref (a 212), .int 4, .int 12, .int (-1), .int 0, .ref q_7, .ref (a 213), .int 0, .int 97, .ref (a 214), .ref (a 215), .ref (a 207), .null, .int 0]))]) [1] (by decide) rfl
        have hFc := va_free (wc := [((a 200), .inr (21, [.int 1, .ref (a 201), .ref (a 202), .ref (a 203), .ref (a 204), .ref (a 205), .ref (a 206), .int 0, .int 0, .int 0, .int 0, .ref (a 208), .ref (a 209), .ref (a 210), .ref (a 211), .ref (a 212), .int 4, .int 12, .int (-1), .int 0, .ref q_7, .ref (a 213), .int 0, .int 97, .ref (a 214), .ref (a 215), .ref (a 207), .null, .int 0]))]) hD hS hA [1] rfl
        refine va_calli (va_runV (As := []) (rest := []) ⟨hx, hb, hml, hown, ht⟩ (k_X15_thrown_v5 l D g z0 _ a q_7) (cwV 0 ht (gV w_772 w_774 w_775 w_334 w_773) rfl rfl rfl (by decide +kernel) (le2 rfl rfl)) ⟨PP.blind, va_recv hK.1 hP (ci := 21) (q0 := 1) rfl rfl, PP.mk' hK hZ hz hAz hS hPc hDc⟩ rfl rfl hl.1 rfl (lv_room (Nat.le_of_ble_eq_true rfl)) dL_law_3156 (le2 rfl rfl)) hS (fun q _ h => hFc q h) hFc (fun r u t H locs ht1 hvm hw hB hz1 hk1 hS => ?_)
        obtain ⟨rfl, hw⟩ := hw
        obtain ⟨hP1, hD1⟩ := hB
        rw [ht1] at hP1
        obtain ⟨hP, hD⟩ := va_join (wr := [(o1, .inl (g 1, 1, .inr (.inl (fun _ => 0))))]) (w1 := [((a 200), .inr (21, [.int 1, .ref (a 201), .ref (a 202), .ref (a 203), .ref (a 204), .ref (a 205), .ref (a 206), .int 0, .int 0, .int 0, .int 0, .ref (a 208), .ref (a 209), .ref (a 210), .ref (a 211), .ref (a 212), .int 4, .int 12, .int (-1), .int 0, .ref q_7, .ref (a 213), .int 0, .int 97, .ref (a 214), .ref (a 215), .ref (a 207), .null, .int 0]))]) hP hD [1] [0] rfl rfl (by decide) (by decide) hk1 hFc hP1 hD1
        have hP : va_P D vwCl [(o1, .inl (g 1, 1, .inr (.inl (fun _ => 0)))), ((a 200), .inr (21, [.int 1, .ref (a 201), .ref (a 202), .ref (a 203), .ref (a 204), .ref (a 205), .ref (a 206), .int 0, .int 0, .int 0, .int 0, .ref (a 208), .ref (a 209), .ref (a 210), .ref (a 211), .ref (a 212), .int 4, .int 12, .int (-1), .int 0, .ref q_7, .ref (a 213), .int 0, .int 97, .ref (a 214), .ref (a 215), .ref (a 207), .null, .int 0]))] H := hP
        have hD : va_D (va_A [] s.heap.size) [(o1, .inl (g 1, 1, .inr (.inl (fun _ => 0)))), ((a 200), .inr (21, [.int 1, .ref (a 201), .ref (a 202), .ref (a 203), .ref (a 204), .ref (a 205), .ref (a 206), .int 0, .int 0, .int 0, .int 0, .ref (a 208), .ref (a 209), .ref (a 210), .ref (a 211), .ref (a 212), .int 4, .int 12, .int (-1), .int 0, .ref q_7, .ref (a 213), .int 0, .int 97, .ref (a 214), .ref (a 215), .ref (a 207), .null, .int 0]))] := hD
        refine lv_iload hx hb dL_law_3159 (lv_at hl 1 rfl) ?_
        refine lv_icmp_eq (tgt := 3166) hx hb dL_law_3161 (by decide) (fun c_22 => ?_) (fun c_22 => ?_)
        · refine lv_iload hx hb dL_law_3166 (lv_at hl 1 rfl) ?_
          refine lv_if_ne (tgt := 3183) hx hb dL_law_3168 (by decide) (fun c_23 => ?_) (fun c_23 => ?_)
          · refine lv_goto (tgt := 4264) hx hb dL_law_3183 (by decide) ?_
            refine W.widen (k := 200 + 300) (n := 8000 + 2000) (Nat.le_of_ble_eq_true rfl) (Nat.le_of_ble_eq_true rfl) ?_
            exact kk _ _ _ hS (lv_sub hl [7, 2] rfl)
          · exact absurd c_23 (by decide)
        · exact absurd c_22 (by decide)
      · obtain ⟨c_24, c_25, c_26, c_27, c_28, c_29⟩ := hw
        obtain ⟨hP1, hD1⟩ := hB
        rw [ht1] at hP1
        obtain ⟨hP, hD⟩ := va_join (wr := [(o1, .inl (g 1, 1, .inr (.inl (fun _ => 0))))]) (w1 := [((a 200), .inr (21, [.int 1, .ref (a 201), .ref (a 202), .ref (a 203), .ref (a 204), .ref (a 205), .ref (a 206), .int 0, .int 0, .int 0, .int 0, .ref (a 208), .ref (a 209), .ref (a 210), .ref (a 211), .ref (a 212), .int 4, .int 12, .int (-1), .int 0, .ref q_7, .ref (a 213), .int 0, .int 97, .ref (a 214), .ref (a 215), .ref (a 207), .null, .int 0]))]) hP hD [0] [1] rfl rfl (by decide) (by decide) hk1 hFc hP1 hD1
        have hP : va_P D vwCl [(o1, .inl (g 1, 1, .inr (.inl (fun _ => 0)))), ((a 200), .inr (21, [.int 1, .ref (a 201), .ref (a 202), .ref (a 203), .ref (a 204), .ref (a 205), .ref (a 206), .int 0, .int 0, .int 0, .int 0, .ref (a 208), .ref (a 209), .ref (a 210), .ref (a 211), .ref (a 212), .int 4, .int 12, .int (-1), .int 0, .ref q_7, .ref (a 213), .int 0, .int 97, .ref (a 214), .ref (a 215), .ref (a 207), .null, .int 0]))] H := hP
        have hD : va_D (va_A [] s.heap.size) [(o1, .inl (g 1, 1, .inr (.inl (fun _ => 0)))), ((a 200), .inr (21, [.int 1, .ref (a 201), .ref (a 202), .ref (a 203), .ref (a 204), .ref (a 205), .ref (a 206), .int 0, .int 0, .int 0, .int 0, .ref (a 208), .ref (a 209), .ref (a 210), .ref (a 211), .ref (a 212), .int 4, .int 12, .int (-1), .int 0, .ref q_7, .ref (a 213), .int 0, .int 97, .ref (a 214), .ref (a 215), .ref (a 207), .null, .int 0]))] := hD
        refine lv_istore (lv' := [(7, .int 0), (6, .int 1), (0, .ref b), (1, .ref (a 0)), (2, .ref (a 200)), (3, .ref o1), (4, .ref o2), (5, .int 0)]) hx hb dL_law_3153 hl (by decide) rfl (fun ls hl => ?_)
        refine lv_aload_n hx hb dL_law_3155 rfl (lv_at hl 4 rfl) ?_
        have hPc : va_P D vwCl [((a 200), .inr (21, [.int 1, .ref (a 201), .ref (a 202), .ref (a 203), .ref (a 204), .ref (a 205), .ref (a 206), .int 0, .int 0, .int 0, .int 0, .ref (a 208), .ref (a 209), .ref (a 210), .ref (a 211), .ref (a 212), .int 4, .int 12, .int (-1), .int 0, .ref q_7, .ref (a 213), .int 0, .int 97, .ref (a 214), .ref (a 215), .ref (a 207), .null, .int 0]))] _ := hP.sub (ws' := [((a 200), .inr (21, [.int 1, .ref (a 201), .ref (a 202), .ref (a 203), .ref (a 204), .ref (a 205), .ref (a 206), .int 0, .int 0, .int 0, .int 0, .ref (a 208), .ref (a 209), .ref (a 210), .ref (a 211), .ref (a 212), .int 4, .int 12, .int (-1), .int 0, .ref q_7, .ref (a 213), .int 0, .int 97, .ref (a 214), .ref (a 215), .ref (a 207), .null, .int 0]))]) [1] rfl
        have hDc : va_D (fun q => z0 ≤ q) [((a 200), .inr (21, [.int 1, .ref (a 201), .ref (a 202), .ref (a 203), .ref (a 204), .ref (a 205), .ref (a 206), .int 0, .int 0, .int 0, .int 0, .ref (a 208), .ref (a 209), .ref (a 210), .ref (a 211), .ref (a 212), .int 4, .int 12, .int (-1), .int 0, .ref q_7, .ref (a 213), .int 0, .int 97, .ref (a 214), .ref (a 215), .ref (a 207), .null, .int 0]))] := (hD.to hAz).pick (ws' := [((a 200), .inr (21, [.int 1, .ref (a 201), .ref (a 202), .ref (a 203), .ref (a 204), .ref (a 205), .ref (a 206), .int 0, .int 0, .int 0, .int 0, .ref (a 208), .ref (a 209), .ref (a 210), .ref (a 211), .ref (a 212), .int 4, .int 12, .int (-1), .int 0, .ref q_7, .ref (a 213), .int 0, .int 97, .ref (a 214), .ref (a 215), .ref (a 207), .null, .int 0]))]) [1] (by decide) rfl
        have hFc := va_free (wc := [((a 200), .inr (21, [.int 1, .ref (a 201), .ref (a 202), .ref (a 203), .ref (a 204), .ref (a 205), .ref (a 206), .int 0, .int 0, .int 0, .int 0, .ref (a 208), .ref (a 209), .ref (a 210), .ref (a 211), .ref (a 212), .int 4, .int 12, .int (-1), .int 0, .ref q_7, .ref (a 213), .int 0, .int 97, .ref (a 214), .ref (a 215), .ref (a 207), .null, .int 0]))]) hD hS hA [1] rfl
        refine va_calli (va_runV (As := []) (rest := []) ⟨hx, hb, hml, hown, ht⟩ (k_X15_thrown_v5 l D g z0 _ a q_7) (cwV 0 ht (gV w_772 w_774 w_775 w_334 w_773) rfl rfl rfl (by decide +kernel) (le2 rfl rfl)) ⟨PP.blind, va_recv hK.1 hP (ci := 21) (q0 := 1) rfl rfl, PP.mk' hK hZ hz hAz hS hPc hDc⟩ rfl rfl hl.1 rfl (lv_room (Nat.le_of_ble_eq_true rfl)) dL_law_3156 (le2 rfl rfl)) hS (fun q _ h => hFc q h) hFc (fun r u t H locs ht1 hvm hw hB hz1 hk1 hS => ?_)
        obtain ⟨rfl, hw⟩ := hw
        obtain ⟨hP1, hD1⟩ := hB
        rw [ht1] at hP1
        obtain ⟨hP, hD⟩ := va_join (wr := [(o1, .inl (g 1, 1, .inr (.inl (fun _ => 0))))]) (w1 := [((a 200), .inr (21, [.int 1, .ref (a 201), .ref (a 202), .ref (a 203), .ref (a 204), .ref (a 205), .ref (a 206), .int 0, .int 0, .int 0, .int 0, .ref (a 208), .ref (a 209), .ref (a 210), .ref (a 211), .ref (a 212), .int 4, .int 12, .int (-1), .int 0, .ref q_7, .ref (a 213), .int 0, .int 97, .ref (a 214), .ref (a 215), .ref (a 207), .null, .int 0]))]) hP hD [1] [0] rfl rfl (by decide) (by decide) hk1 hFc hP1 hD1
        have hP : va_P D vwCl [(o1, .inl (g 1, 1, .inr (.inl (fun _ => 0)))), ((a 200), .inr (21, [.int 1, .ref (a 201), .ref (a 202), .ref (a 203), .ref (a 204), .ref (a 205), .ref (a 206), .int 0, .int 0, .int 0, .int 0, .ref (a 208), .ref (a 209), .ref (a 210), .ref (a 211), .ref (a 212), .int 4, .int 12, .int (-1), .int 0, .ref q_7, .ref (a 213), .int 0, .int 97, .ref (a 214), .ref (a 215), .ref (a 207), .null, .int 0]))] H := hP
        have hD : va_D (va_A [] s.heap.size) [(o1, .inl (g 1, 1, .inr (.inl (fun _ => 0)))), ((a 200), .inr (21, [.int 1, .ref (a 201), .ref (a 202), .ref (a 203), .ref (a 204), .ref (a 205), .ref (a 206), .int 0, .int 0, .int 0, .int 0, .ref (a 208), .ref (a 209), .ref (a 210), .ref (a 211), .ref (a 212), .int 4, .int 12, .int (-1), .int 0, .ref q_7, .ref (a 213), .int 0, .int 97, .ref (a 214), .ref (a 215), .ref (a 207), .null, .int 0]))] := hD
        refine lv_iload hx hb dL_law_3159 (lv_at hl 1 rfl) ?_
        refine lv_icmp_eq (tgt := 3166) hx hb dL_law_3161 (by decide) (fun c_30 => ?_) (fun c_30 => ?_)
        · refine lv_iload hx hb dL_law_3166 (lv_at hl 1 rfl) ?_
          refine lv_if_ne (tgt := 3183) hx hb dL_law_3168 (by decide) (fun c_31 => ?_) (fun c_31 => ?_)
          · refine lv_goto (tgt := 4264) hx hb dL_law_3183 (by decide) ?_
            refine W.widen (k := 200 + 300) (n := 8000 + 2000) (Nat.le_of_ble_eq_true rfl) (Nat.le_of_ble_eq_true rfl) ?_
            exact kk _ _ _ hS (lv_sub hl [7, 2] rfl)
          · exact absurd c_31 (by decide)
        · exact absurd c_30 (by decide)
    · obtain ⟨rfl, rfl, hw⟩ := hw
      have c_32 := hw
      exact absurd c_32 c_6
    · obtain ⟨rfl, rfl, hw⟩ := hw
      have c_33 := hw
      exact absurd c_33 c_5
    · obtain ⟨rfl, rfl, hw⟩ := hw
      have c_34 := hw
      exact absurd c_34 c_4
    · obtain ⟨rfl, rfl, hw⟩ := hw
      have c_35 := hw
      exact absurd c_35 c_3
    · obtain ⟨rfl, rfl, hw⟩ := hw
      have c_36 := hw
      exact absurd c_36 c_2
    · obtain ⟨rfl, rfl, hw⟩ := hw
      have c_37 := hw
      exact absurd c_37 c_1
  · obtain ⟨rfl, rfl, hw⟩ := hw
    rcases hw with hw | hw | hw | hw | hw | hw
    · have c_38 := hw
      obtain ⟨hP1, hD1⟩ := hB
      rw [ht1] at hP1
      obtain ⟨hP, hD⟩ := va_join (wr := [((a 200), f_m a g)]) (w1 := [(o1, .inl (g 1, 1, .inr (.inl (fun _ => 1))))]) hP hD [4, 0, 2, 1] [3] rfl rfl (by decide) (by decide) hk1 hFc hP1 hD1
      have hP : va_P D vwCl [((a 200), f_m a g), (o1, .inl (g 1, 1, .inr (.inl (fun _ => 1))))] H := hP
      have hD : va_D (va_A [] s.heap.size) [((a 200), f_m a g), (o1, .inl (g 1, 1, .inr (.inl (fun _ => 1))))] := hD
      refine lv_istore (lv' := [(6, .int 0), (0, .ref b), (1, .ref (a 0)), (2, .ref (a 200)), (3, .ref o1), (4, .ref o2), (5, .int 0)]) hx hb dL_law_3140 hl (by decide) rfl (fun ls hl => ?_)
      refine lv_aload_n hx hb dL_law_3142 rfl (lv_at hl 3 rfl) ?_
      refine lv_aload_n hx hb dL_law_3143 rfl (lv_at hl 1 rfl) ?_
      refine lv_iload hx hb dL_law_3144 (lv_at hl 6 rfl) ?_
      refine lv_iconst (v := 1) hx hb dL_law_3146 (by decide) ?_
      refine lv_iadd hx hb dL_law_3147 ?_
      refine r_topi (v := 1) (by decide) ?_
      refine va_sld hx hb hX hbl hbA hS (by unfold vp_in; decide) dL_law_3148 ?_
      refine r_topi (v := xs 1) (congrArg xs (by decide)) ?_
      refine lv_i2c (v := ((xs 1).toUInt32 % 65536).toInt32) hx hb dL_law_3149 rfl ?_
      have hPc : va_P D vwCl [((a 200), f_m a g)] _ := hP.sub (ws' := [((a 200), f_m a g)]) [0] rfl
      have hDc : va_D (fun q => z0 ≤ q) [((a 200), f_m a g)] := (hD.to hAz).pick (ws' := [((a 200), f_m a g)]) [0] (by decide) rfl
      have hFc := va_free (wc := [((a 200), f_m a g)]) hD hS hA [0] rfl
      refine va_calli (va_runV (As := [.int (((xs 1).toUInt32 % 65536).toInt32)]) (rest := []) ⟨hx, hb, hml, hown, ht⟩ (k_X15_march l D g z0 _ a (((xs 1).toUInt32 % 65536).toInt32) (isC_i2c _)) (cwV 1 ht (gV w_1399 w_1401 w_1402 w_334 w_1400) rfl rfl rfl (by decide +kernel) (le2 rfl rfl)) ⟨PP.blind, va_recv hK.1 hP (ci := 21) (q0 := 0) rfl rfl, PP.mk' hK hZ hz hAz hS hPc hDc⟩ rfl rfl hl.1 rfl (lv_room (Nat.le_of_ble_eq_true rfl)) dL_law_3150 (le2 rfl rfl)) hS (fun q _ h => hFc q h) hFc (fun r u t H locs ht1 hvm hw hB hz1 hk1 hS => ?_)
      obtain ⟨u0, q_39⟩ := u
      rcases hw with hw | hw | hw | hw | hw | hw | hw
      · obtain ⟨rfl, rfl, hw⟩ := hw
        rcases hw with hw | hw | hw
        · obtain ⟨c_40, c_41, c_42, c_43, c_44, c_45⟩ := hw
          exact absurd c_38 c_40
        · obtain ⟨c_46, c_47, c_48, c_49, c_50, c_51⟩ := hw
          exact absurd c_38 c_46
        · obtain ⟨c_52, c_53, c_54, c_55, c_56, c_57⟩ := hw
          exact absurd c_38 c_52
      · obtain ⟨rfl, rfl, hw⟩ := hw
        have c_58 := hw
        exact absurd (c_38.symm.trans c_58) (by decide)
      · obtain ⟨rfl, rfl, hw⟩ := hw
        have c_59 := hw
        exact absurd (c_38.symm.trans c_59) (by decide)
      · obtain ⟨rfl, rfl, hw⟩ := hw
        have c_60 := hw
        exact absurd (c_38.symm.trans c_60) (by decide)
      · obtain ⟨rfl, rfl, hw⟩ := hw
        have c_61 := hw
        exact absurd (c_38.symm.trans c_61) (by decide)
      · obtain ⟨rfl, rfl, hw⟩ := hw
        have c_62 := hw
        exact absurd (c_38.symm.trans c_62) (by decide)
      · obtain ⟨rfl, rfl, hw⟩ := hw
        have c_63 := hw
        obtain ⟨hP1, hD1⟩ := hB
        rw [ht1] at hP1
        obtain ⟨hP, hD⟩ := va_join (wr := [(o1, .inl (g 1, 1, .inr (.inl (fun _ => 1))))]) (w1 := [((a 200), .inr (21, [.int 0, .ref (a 201), .ref (a 202), .ref (a 203), .ref (a 204), .ref (a 205), .ref (a 206), .int 0, .int 0, .int 0, .int 0, .ref (a 208), .ref (a 209), .ref (a 210), .ref (a 211), .ref (a 212), .int 4, .int 12, .int (-1), .int 0, .ref q_39, .ref (a 213), .int 0, .int 97, .ref (a 214), .ref (a 215), .ref (a 207), .null, .int 0]))]) hP hD [0] [1] rfl rfl (by decide) (by decide) hk1 hFc hP1 hD1
        have hP : va_P D vwCl [(o1, .inl (g 1, 1, .inr (.inl (fun _ => 1)))), ((a 200), .inr (21, [.int 0, .ref (a 201), .ref (a 202), .ref (a 203), .ref (a 204), .ref (a 205), .ref (a 206), .int 0, .int 0, .int 0, .int 0, .ref (a 208), .ref (a 209), .ref (a 210), .ref (a 211), .ref (a 212), .int 4, .int 12, .int (-1), .int 0, .ref q_39, .ref (a 213), .int 0, .int 97, .ref (a 214), .ref (a 215), .ref (a 207), .null, .int 0]))] H := hP
        have hD : va_D (va_A [] s.heap.size) [(o1, .inl (g 1, 1, .inr (.inl (fun _ => 1)))), ((a 200), .inr (21, [.int 0, .ref (a 201), .ref (a 202), .ref (a 203), .ref (a 204), .ref (a 205), .ref (a 206), .int 0, .int 0, .int 0, .int 0, .ref (a 208), .ref (a 209), .ref (a 210), .ref (a 211), .ref (a 212), .int 4, .int 12, .int (-1), .int 0, .ref q_39, .ref (a 213), .int 0, .int 97, .ref (a 214), .ref (a 215), .ref (a 207), .null, .int 0]))] := hD
        refine lv_istore (lv' := [(7, .int 1), (6, .int 0), (0, .ref b), (1, .ref (a 0)), (2, .ref (a 200)), (3, .ref o1), (4, .ref o2), (5, .int 0)]) hx hb dL_law_3153 hl (by decide) rfl (fun ls hl => ?_)
        refine lv_aload_n hx hb dL_law_3155 rfl (lv_at hl 4 rfl) ?_
        have hPc : va_P D vwCl [((a 200), .inr (21, [.int 0, .ref (a 201), .ref (a 202), .ref (a 203), .ref (a 204), .ref (a 205), .ref (a 206), .int 0, .int 0, .int 0, .int 0, .ref (a 208), .ref (a 209), .ref (a 210), .ref (a 211), .ref (a 212), .int 4, .int 12, .int (-1), .int 0, .ref q_39, .ref (a 213), .int 0, .int 97, .ref (a 214), .ref (a 215), .ref (a 207), .null, .int 0]))] _ := hP.sub (ws' := [((a 200), .inr (21, [.int 0, .ref (a 201), .ref (a 202), .ref (a 203), .ref (a 204), .ref (a 205), .ref (a 206), .int 0, .int 0, .int 0, .int 0, .ref (a 208), .ref (a 209), .ref (a 210), .ref (a 211), .ref (a 212), .int 4, .int 12, .int (-1), .int 0, .ref q_39, .ref (a 213), .int 0, .int 97, .ref (a 214), .ref (a 215), .ref (a 207), .null, .int 0]))]) [1] rfl
        have hDc : va_D (fun q => z0 ≤ q) [((a 200), .inr (21, [.int 0, .ref (a 201), .ref (a 202), .ref (a 203), .ref (a 204), .ref (a 205), .ref (a 206), .int 0, .int 0, .int 0, .int 0, .ref (a 208), .ref (a 209), .ref (a 210), .ref (a 211), .ref (a 212), .int 4, .int 12, .int (-1), .int 0, .ref q_39, .ref (a 213), .int 0, .int 97, .ref (a 214), .ref (a 215), .ref (a 207), .null, .int 0]))] := (hD.to hAz).pick (ws' := [((a 200), .inr (21, [.int 0, .ref (a 201), .ref (a 202), .ref (a 203), .ref (a 204), .ref (a 205), .ref (a 206), .int 0, .int 0, .int 0, .int 0, .ref (a 208), .ref (a 209), .ref (a 210), .ref (a 211), .ref (a 212), .int 4, .int 12, .int (-1), .int 0, .ref q_39, .ref (a 213), .int 0, .int 97, .ref (a 214), .ref (a 215), .ref (a 207), .null, .int 0]))]) [1] (by decide) rfl
        have hFc := va_free (wc := [((a 200), .inr (21, [.int 0, .ref (a 201), .ref (a 202), .ref (a 203), .ref (a 204), .ref (a 205), .ref (a 206), .int 0, .int 0, .int 0, .int 0, .ref (a 208), .ref (a 209), .ref (a 210), .ref (a 211), .ref (a 212), .int 4, .int 12, .int (-1), .int 0, .ref q_39, .ref (a 213), .int 0, .int 97, .ref (a 214), .ref (a 215), .ref (a 207), .null, .int 0]))]) hD hS hA [1] rfl
        refine va_calli (va_runV (As := []) (rest := []) ⟨hx, hb, hml, hown, ht⟩ (k_X15_thrown_v6 l D g z0 _ a q_39) (cwV 0 ht (gV w_772 w_774 w_775 w_334 w_773) rfl rfl rfl (by decide +kernel) (le2 rfl rfl)) ⟨PP.blind, va_recv hK.1 hP (ci := 21) (q0 := 1) rfl rfl, PP.mk' hK hZ hz hAz hS hPc hDc⟩ rfl rfl hl.1 rfl (lv_room (Nat.le_of_ble_eq_true rfl)) dL_law_3156 (le2 rfl rfl)) hS (fun q _ h => hFc q h) hFc (fun r u t H locs ht1 hvm hw hB hz1 hk1 hS => ?_)
        obtain ⟨rfl, hw⟩ := hw
        obtain ⟨hP1, hD1⟩ := hB
        rw [ht1] at hP1
        obtain ⟨hP, hD⟩ := va_join (wr := [(o1, .inl (g 1, 1, .inr (.inl (fun _ => 1))))]) (w1 := [((a 200), .inr (21, [.int 0, .ref (a 201), .ref (a 202), .ref (a 203), .ref (a 204), .ref (a 205), .ref (a 206), .int 0, .int 0, .int 0, .int 0, .ref (a 208), .ref (a 209), .ref (a 210), .ref (a 211), .ref (a 212), .int 4, .int 12, .int (-1), .int 0, .ref q_39, .ref (a 213), .int 0, .int 97, .ref (a 214), .ref (a 215), .ref (a 207), .null, .int 0]))]) hP hD [1] [0] rfl rfl (by decide) (by decide) hk1 hFc hP1 hD1
        have hP : va_P D vwCl [(o1, .inl (g 1, 1, .inr (.inl (fun _ => 1)))), ((a 200), .inr (21, [.int 0, .ref (a 201), .ref (a 202), .ref (a 203), .ref (a 204), .ref (a 205), .ref (a 206), .int 0, .int 0, .int 0, .int 0, .ref (a 208), .ref (a 209), .ref (a 210), .ref (a 211), .ref (a 212), .int 4, .int 12, .int (-1), .int 0, .ref q_39, .ref (a 213), .int 0, .int 97, .ref (a 214), .ref (a 215), .ref (a 207), .null, .int 0]))] H := hP
        have hD : va_D (va_A [] s.heap.size) [(o1, .inl (g 1, 1, .inr (.inl (fun _ => 1)))), ((a 200), .inr (21, [.int 0, .ref (a 201), .ref (a 202), .ref (a 203), .ref (a 204), .ref (a 205), .ref (a 206), .int 0, .int 0, .int 0, .int 0, .ref (a 208), .ref (a 209), .ref (a 210), .ref (a 211), .ref (a 212), .int 4, .int 12, .int (-1), .int 0, .ref q_39, .ref (a 213), .int 0, .int 97, .ref (a 214), .ref (a 215), .ref (a 207), .null, .int 0]))] := hD
        refine lv_iload hx hb dL_law_3159 (lv_at hl 1 rfl) ?_
        refine lv_icmp_eq (tgt := 3166) hx hb dL_law_3161 (by decide) (fun c_64 => ?_) (fun c_64 => ?_)
        · refine lv_iload hx hb dL_law_3166 (lv_at hl 1 rfl) ?_
          refine lv_if_ne (tgt := 3183) hx hb dL_law_3168 (by decide) (fun c_65 => ?_) (fun c_65 => ?_)
          · exact absurd c_65 (by decide)
          · refine lv_aload_n hx hb dL_law_3171 rfl (lv_at hl 5 rfl) ?_
            refine lv_iconst (v := 0) hx hb dL_law_3172 (by decide) ?_
            refine va_lald hx hb hK.1 hP 0 1 rfl rfl (by unfold vp_in; decide) dL_law_3173 ?_
            refine r_topl (v := 1) (by decide) ?_
            refine lv_iload hx hb dL_law_3174 (lv_at hl 0 rfl) ?_
            refine lv_i2l (v := 1) hx hb dL_law_3176 (by decide) ?_
            refine W.lcmp hx hb dL_law_3177 ?_
            refine r_topi (v := 0) (by decide) ?_
            refine lv_if_eq (tgt := 3183) hx hb dL_law_3178 (by decide) (fun c_66 => ?_) (fun c_66 => ?_)
            · refine lv_goto (tgt := 4264) hx hb dL_law_3183 (by decide) ?_
              refine W.widen (k := 200 + 300) (n := 8000 + 2000) (Nat.le_of_ble_eq_true rfl) (Nat.le_of_ble_eq_true rfl) ?_
              exact kk _ _ _ hS (lv_sub hl [7, 2] rfl)
            · exact absurd c_66 (by decide)
        · exact absurd c_64 (by decide)
    · obtain ⟨c_67, c_68⟩ := hw
      obtain ⟨hP1, hD1⟩ := hB
      rw [ht1] at hP1
      obtain ⟨hP, hD⟩ := va_join (wr := [((a 200), f_m a g)]) (w1 := [(o1, .inl (g 1, 1, .inr (.inl (fun _ => 1))))]) hP hD [4, 0, 2, 1] [3] rfl rfl (by decide) (by decide) hk1 hFc hP1 hD1
      have hP : va_P D vwCl [((a 200), f_m a g), (o1, .inl (g 1, 1, .inr (.inl (fun _ => 1))))] H := hP
      have hD : va_D (va_A [] s.heap.size) [((a 200), f_m a g), (o1, .inl (g 1, 1, .inr (.inl (fun _ => 1))))] := hD
      refine lv_istore (lv' := [(6, .int 0), (0, .ref b), (1, .ref (a 0)), (2, .ref (a 200)), (3, .ref o1), (4, .ref o2), (5, .int 0)]) hx hb dL_law_3140 hl (by decide) rfl (fun ls hl => ?_)
      refine lv_aload_n hx hb dL_law_3142 rfl (lv_at hl 3 rfl) ?_
      refine lv_aload_n hx hb dL_law_3143 rfl (lv_at hl 1 rfl) ?_
      refine lv_iload hx hb dL_law_3144 (lv_at hl 6 rfl) ?_
      refine lv_iconst (v := 1) hx hb dL_law_3146 (by decide) ?_
      refine lv_iadd hx hb dL_law_3147 ?_
      refine r_topi (v := 1) (by decide) ?_
      refine va_sld hx hb hX hbl hbA hS (by unfold vp_in; decide) dL_law_3148 ?_
      refine r_topi (v := xs 1) (congrArg xs (by decide)) ?_
      refine lv_i2c (v := ((xs 1).toUInt32 % 65536).toInt32) hx hb dL_law_3149 rfl ?_
      have hPc : va_P D vwCl [((a 200), f_m a g)] _ := hP.sub (ws' := [((a 200), f_m a g)]) [0] rfl
      have hDc : va_D (fun q => z0 ≤ q) [((a 200), f_m a g)] := (hD.to hAz).pick (ws' := [((a 200), f_m a g)]) [0] (by decide) rfl
      have hFc := va_free (wc := [((a 200), f_m a g)]) hD hS hA [0] rfl
      refine va_calli (va_runV (As := [.int (((xs 1).toUInt32 % 65536).toInt32)]) (rest := []) ⟨hx, hb, hml, hown, ht⟩ (k_X15_march l D g z0 _ a (((xs 1).toUInt32 % 65536).toInt32) (isC_i2c _)) (cwV 1 ht (gV w_1399 w_1401 w_1402 w_334 w_1400) rfl rfl rfl (by decide +kernel) (le2 rfl rfl)) ⟨PP.blind, va_recv hK.1 hP (ci := 21) (q0 := 0) rfl rfl, PP.mk' hK hZ hz hAz hS hPc hDc⟩ rfl rfl hl.1 rfl (lv_room (Nat.le_of_ble_eq_true rfl)) dL_law_3150 (le2 rfl rfl)) hS (fun q _ h => hFc q h) hFc (fun r u t H locs ht1 hvm hw hB hz1 hk1 hS => ?_)
      obtain ⟨u0, q_69⟩ := u
      rcases hw with hw | hw | hw | hw | hw | hw | hw
      · obtain ⟨rfl, rfl, hw⟩ := hw
        rcases hw with hw | hw | hw
        · obtain ⟨c_70, c_71, c_72, c_73, c_74, c_75⟩ := hw
          exact absurd c_68 c_71
        · obtain ⟨c_76, c_77, c_78, c_79, c_80, c_81⟩ := hw
          exact absurd c_68 c_77
        · obtain ⟨c_82, c_83, c_84, c_85, c_86, c_87⟩ := hw
          exact absurd c_68 c_83
      · obtain ⟨rfl, rfl, hw⟩ := hw
        have c_88 := hw
        exact absurd (c_68.symm.trans c_88) (by decide)
      · obtain ⟨rfl, rfl, hw⟩ := hw
        have c_89 := hw
        exact absurd (c_68.symm.trans c_89) (by decide)
      · obtain ⟨rfl, rfl, hw⟩ := hw
        have c_90 := hw
        exact absurd (c_68.symm.trans c_90) (by decide)
      · obtain ⟨rfl, rfl, hw⟩ := hw
        have c_91 := hw
        exact absurd (c_68.symm.trans c_91) (by decide)
      · obtain ⟨rfl, rfl, hw⟩ := hw
        have c_92 := hw
        obtain ⟨hP1, hD1⟩ := hB
        rw [ht1] at hP1
        obtain ⟨hP, hD⟩ := va_join (wr := [(o1, .inl (g 1, 1, .inr (.inl (fun _ => 1))))]) (w1 := [((a 200), .inr (21, [.int 0, .ref (a 201), .ref (a 202), .ref (a 203), .ref (a 204), .ref (a 205), .ref (a 206), .int 0, .int 0, .int 0, .int 0, .ref (a 208), .ref (a 209), .ref (a 210), .ref (a 211), .ref (a 212), .int 4, .int 12, .int (-1), .int 0, .ref q_69, .ref (a 213), .int 0, .int 97, .ref (a 214), .ref (a 215), .ref (a 207), .null, .int 0]))]) hP hD [0] [1] rfl rfl (by decide) (by decide) hk1 hFc hP1 hD1
        have hP : va_P D vwCl [(o1, .inl (g 1, 1, .inr (.inl (fun _ => 1)))), ((a 200), .inr (21, [.int 0, .ref (a 201), .ref (a 202), .ref (a 203), .ref (a 204), .ref (a 205), .ref (a 206), .int 0, .int 0, .int 0, .int 0, .ref (a 208), .ref (a 209), .ref (a 210), .ref (a 211), .ref (a 212), .int 4, .int 12, .int (-1), .int 0, .ref q_69, .ref (a 213), .int 0, .int 97, .ref (a 214), .ref (a 215), .ref (a 207), .null, .int 0]))] H := hP
        have hD : va_D (va_A [] s.heap.size) [(o1, .inl (g 1, 1, .inr (.inl (fun _ => 1)))), ((a 200), .inr (21, [.int 0, .ref (a 201), .ref (a 202), .ref (a 203), .ref (a 204), .ref (a 205), .ref (a 206), .int 0, .int 0, .int 0, .int 0, .ref (a 208), .ref (a 209), .ref (a 210), .ref (a 211), .ref (a 212), .int 4, .int 12, .int (-1), .int 0, .ref q_69, .ref (a 213), .int 0, .int 97, .ref (a 214), .ref (a 215), .ref (a 207), .null, .int 0]))] := hD
        refine lv_istore (lv' := [(7, .int 1), (6, .int 0), (0, .ref b), (1, .ref (a 0)), (2, .ref (a 200)), (3, .ref o1), (4, .ref o2), (5, .int 0)]) hx hb dL_law_3153 hl (by decide) rfl (fun ls hl => ?_)
        refine lv_aload_n hx hb dL_law_3155 rfl (lv_at hl 4 rfl) ?_
        have hPc : va_P D vwCl [((a 200), .inr (21, [.int 0, .ref (a 201), .ref (a 202), .ref (a 203), .ref (a 204), .ref (a 205), .ref (a 206), .int 0, .int 0, .int 0, .int 0, .ref (a 208), .ref (a 209), .ref (a 210), .ref (a 211), .ref (a 212), .int 4, .int 12, .int (-1), .int 0, .ref q_69, .ref (a 213), .int 0, .int 97, .ref (a 214), .ref (a 215), .ref (a 207), .null, .int 0]))] _ := hP.sub (ws' := [((a 200), .inr (21, [.int 0, .ref (a 201), .ref (a 202), .ref (a 203), .ref (a 204), .ref (a 205), .ref (a 206), .int 0, .int 0, .int 0, .int 0, .ref (a 208), .ref (a 209), .ref (a 210), .ref (a 211), .ref (a 212), .int 4, .int 12, .int (-1), .int 0, .ref q_69, .ref (a 213), .int 0, .int 97, .ref (a 214), .ref (a 215), .ref (a 207), .null, .int 0]))]) [1] rfl
        have hDc : va_D (fun q => z0 ≤ q) [((a 200), .inr (21, [.int 0, .ref (a 201), .ref (a 202), .ref (a 203), .ref (a 204), .ref (a 205), .ref (a 206), .int 0, .int 0, .int 0, .int 0, .ref (a 208), .ref (a 209), .ref (a 210), .ref (a 211), .ref (a 212), .int 4, .int 12, .int (-1), .int 0, .ref q_69, .ref (a 213), .int 0, .int 97, .ref (a 214), .ref (a 215), .ref (a 207), .null, .int 0]))] := (hD.to hAz).pick (ws' := [((a 200), .inr (21, [.int 0, .ref (a 201), .ref (a 202), .ref (a 203), .ref (a 204), .ref (a 205), .ref (a 206), .int 0, .int 0, .int 0, .int 0, .ref (a 208), .ref (a 209), .ref (a 210), .ref (a 211), .ref (a 212), .int 4, .int 12, .int (-1), .int 0, .ref q_69, .ref (a 213), .int 0, .int 97, .ref (a 214), .ref (a 215), .ref (a 207), .null, .int 0]))]) [1] (by decide) rfl
        have hFc := va_free (wc := [((a 200), .inr (21, [.int 0, .ref (a 201), .ref (a 202), .ref (a 203), .ref (a 204), .ref (a 205), .ref (a 206), .int 0, .int 0, .int 0, .int 0, .ref (a 208), .ref (a 209), .ref (a 210), .ref (a 211), .ref (a 212), .int 4, .int 12, .int (-1), .int 0, .ref q_69, .ref (a 213), .int 0, .int 97, .ref (a 214), .ref (a 215), .ref (a 207), .null, .int 0]))]) hD hS hA [1] rfl
        refine va_calli (va_runV (As := []) (rest := []) ⟨hx, hb, hml, hown, ht⟩ (k_X15_thrown_v6 l D g z0 _ a q_69) (cwV 0 ht (gV w_772 w_774 w_775 w_334 w_773) rfl rfl rfl (by decide +kernel) (le2 rfl rfl)) ⟨PP.blind, va_recv hK.1 hP (ci := 21) (q0 := 1) rfl rfl, PP.mk' hK hZ hz hAz hS hPc hDc⟩ rfl rfl hl.1 rfl (lv_room (Nat.le_of_ble_eq_true rfl)) dL_law_3156 (le2 rfl rfl)) hS (fun q _ h => hFc q h) hFc (fun r u t H locs ht1 hvm hw hB hz1 hk1 hS => ?_)
        obtain ⟨rfl, hw⟩ := hw
        obtain ⟨hP1, hD1⟩ := hB
        rw [ht1] at hP1
        obtain ⟨hP, hD⟩ := va_join (wr := [(o1, .inl (g 1, 1, .inr (.inl (fun _ => 1))))]) (w1 := [((a 200), .inr (21, [.int 0, .ref (a 201), .ref (a 202), .ref (a 203), .ref (a 204), .ref (a 205), .ref (a 206), .int 0, .int 0, .int 0, .int 0, .ref (a 208), .ref (a 209), .ref (a 210), .ref (a 211), .ref (a 212), .int 4, .int 12, .int (-1), .int 0, .ref q_69, .ref (a 213), .int 0, .int 97, .ref (a 214), .ref (a 215), .ref (a 207), .null, .int 0]))]) hP hD [1] [0] rfl rfl (by decide) (by decide) hk1 hFc hP1 hD1
        have hP : va_P D vwCl [(o1, .inl (g 1, 1, .inr (.inl (fun _ => 1)))), ((a 200), .inr (21, [.int 0, .ref (a 201), .ref (a 202), .ref (a 203), .ref (a 204), .ref (a 205), .ref (a 206), .int 0, .int 0, .int 0, .int 0, .ref (a 208), .ref (a 209), .ref (a 210), .ref (a 211), .ref (a 212), .int 4, .int 12, .int (-1), .int 0, .ref q_69, .ref (a 213), .int 0, .int 97, .ref (a 214), .ref (a 215), .ref (a 207), .null, .int 0]))] H := hP
        have hD : va_D (va_A [] s.heap.size) [(o1, .inl (g 1, 1, .inr (.inl (fun _ => 1)))), ((a 200), .inr (21, [.int 0, .ref (a 201), .ref (a 202), .ref (a 203), .ref (a 204), .ref (a 205), .ref (a 206), .int 0, .int 0, .int 0, .int 0, .ref (a 208), .ref (a 209), .ref (a 210), .ref (a 211), .ref (a 212), .int 4, .int 12, .int (-1), .int 0, .ref q_69, .ref (a 213), .int 0, .int 97, .ref (a 214), .ref (a 215), .ref (a 207), .null, .int 0]))] := hD
        refine lv_iload hx hb dL_law_3159 (lv_at hl 1 rfl) ?_
        refine lv_icmp_eq (tgt := 3166) hx hb dL_law_3161 (by decide) (fun c_93 => ?_) (fun c_93 => ?_)
        · refine lv_iload hx hb dL_law_3166 (lv_at hl 1 rfl) ?_
          refine lv_if_ne (tgt := 3183) hx hb dL_law_3168 (by decide) (fun c_94 => ?_) (fun c_94 => ?_)
          · exact absurd c_94 (by decide)
          · refine lv_aload_n hx hb dL_law_3171 rfl (lv_at hl 5 rfl) ?_
            refine lv_iconst (v := 0) hx hb dL_law_3172 (by decide) ?_
            refine va_lald hx hb hK.1 hP 0 1 rfl rfl (by unfold vp_in; decide) dL_law_3173 ?_
            refine r_topl (v := 1) (by decide) ?_
            refine lv_iload hx hb dL_law_3174 (lv_at hl 0 rfl) ?_
            refine lv_i2l (v := 1) hx hb dL_law_3176 (by decide) ?_
            refine W.lcmp hx hb dL_law_3177 ?_
            refine r_topi (v := 0) (by decide) ?_
            refine lv_if_eq (tgt := 3183) hx hb dL_law_3178 (by decide) (fun c_95 => ?_) (fun c_95 => ?_)
            · refine lv_goto (tgt := 4264) hx hb dL_law_3183 (by decide) ?_
              refine W.widen (k := 200 + 300) (n := 8000 + 2000) (Nat.le_of_ble_eq_true rfl) (Nat.le_of_ble_eq_true rfl) ?_
              exact kk _ _ _ hS (lv_sub hl [7, 2] rfl)
            · exact absurd c_95 (by decide)
        · exact absurd c_93 (by decide)
      · obtain ⟨rfl, rfl, hw⟩ := hw
        have c_96 := hw
        exact absurd c_96 c_67
    · obtain ⟨c_97, c_98, c_99⟩ := hw
      obtain ⟨hP1, hD1⟩ := hB
      rw [ht1] at hP1
      obtain ⟨hP, hD⟩ := va_join (wr := [((a 200), f_m a g)]) (w1 := [(o1, .inl (g 1, 1, .inr (.inl (fun _ => 1))))]) hP hD [4, 0, 2, 1] [3] rfl rfl (by decide) (by decide) hk1 hFc hP1 hD1
      have hP : va_P D vwCl [((a 200), f_m a g), (o1, .inl (g 1, 1, .inr (.inl (fun _ => 1))))] H := hP
      have hD : va_D (va_A [] s.heap.size) [((a 200), f_m a g), (o1, .inl (g 1, 1, .inr (.inl (fun _ => 1))))] := hD
      refine lv_istore (lv' := [(6, .int 0), (0, .ref b), (1, .ref (a 0)), (2, .ref (a 200)), (3, .ref o1), (4, .ref o2), (5, .int 0)]) hx hb dL_law_3140 hl (by decide) rfl (fun ls hl => ?_)
      refine lv_aload_n hx hb dL_law_3142 rfl (lv_at hl 3 rfl) ?_
      refine lv_aload_n hx hb dL_law_3143 rfl (lv_at hl 1 rfl) ?_
      refine lv_iload hx hb dL_law_3144 (lv_at hl 6 rfl) ?_
      refine lv_iconst (v := 1) hx hb dL_law_3146 (by decide) ?_
      refine lv_iadd hx hb dL_law_3147 ?_
      refine r_topi (v := 1) (by decide) ?_
      refine va_sld hx hb hX hbl hbA hS (by unfold vp_in; decide) dL_law_3148 ?_
      refine r_topi (v := xs 1) (congrArg xs (by decide)) ?_
      refine lv_i2c (v := ((xs 1).toUInt32 % 65536).toInt32) hx hb dL_law_3149 rfl ?_
      have hPc : va_P D vwCl [((a 200), f_m a g)] _ := hP.sub (ws' := [((a 200), f_m a g)]) [0] rfl
      have hDc : va_D (fun q => z0 ≤ q) [((a 200), f_m a g)] := (hD.to hAz).pick (ws' := [((a 200), f_m a g)]) [0] (by decide) rfl
      have hFc := va_free (wc := [((a 200), f_m a g)]) hD hS hA [0] rfl
      refine va_calli (va_runV (As := [.int (((xs 1).toUInt32 % 65536).toInt32)]) (rest := []) ⟨hx, hb, hml, hown, ht⟩ (k_X15_march l D g z0 _ a (((xs 1).toUInt32 % 65536).toInt32) (isC_i2c _)) (cwV 1 ht (gV w_1399 w_1401 w_1402 w_334 w_1400) rfl rfl rfl (by decide +kernel) (le2 rfl rfl)) ⟨PP.blind, va_recv hK.1 hP (ci := 21) (q0 := 0) rfl rfl, PP.mk' hK hZ hz hAz hS hPc hDc⟩ rfl rfl hl.1 rfl (lv_room (Nat.le_of_ble_eq_true rfl)) dL_law_3150 (le2 rfl rfl)) hS (fun q _ h => hFc q h) hFc (fun r u t H locs ht1 hvm hw hB hz1 hk1 hS => ?_)
      obtain ⟨u0, q_100⟩ := u
      rcases hw with hw | hw | hw | hw | hw | hw | hw
      · obtain ⟨rfl, rfl, hw⟩ := hw
        rcases hw with hw | hw | hw
        · obtain ⟨c_101, c_102, c_103, c_104, c_105, c_106⟩ := hw
          exact absurd c_99 c_103
        · obtain ⟨c_107, c_108, c_109, c_110, c_111, c_112⟩ := hw
          exact absurd c_99 c_109
        · obtain ⟨c_113, c_114, c_115, c_116, c_117, c_118⟩ := hw
          exact absurd c_99 c_115
      · obtain ⟨rfl, rfl, hw⟩ := hw
        have c_119 := hw
        exact absurd (c_99.symm.trans c_119) (by decide)
      · obtain ⟨rfl, rfl, hw⟩ := hw
        have c_120 := hw
        exact absurd (c_99.symm.trans c_120) (by decide)
      · obtain ⟨rfl, rfl, hw⟩ := hw
        have c_121 := hw
        exact absurd (c_99.symm.trans c_121) (by decide)
      · obtain ⟨rfl, rfl, hw⟩ := hw
        have c_122 := hw
        obtain ⟨hP1, hD1⟩ := hB
        rw [ht1] at hP1
        obtain ⟨hP, hD⟩ := va_join (wr := [(o1, .inl (g 1, 1, .inr (.inl (fun _ => 1))))]) (w1 := [((a 200), .inr (21, [.int 0, .ref (a 201), .ref (a 202), .ref (a 203), .ref (a 204), .ref (a 205), .ref (a 206), .int 0, .int 0, .int 0, .int 0, .ref (a 208), .ref (a 209), .ref (a 210), .ref (a 211), .ref (a 212), .int 4, .int 12, .int (-1), .int 0, .ref q_100, .ref (a 213), .int 0, .int 97, .ref (a 214), .ref (a 215), .ref (a 207), .null, .int 0]))]) hP hD [0] [1] rfl rfl (by decide) (by decide) hk1 hFc hP1 hD1
        have hP : va_P D vwCl [(o1, .inl (g 1, 1, .inr (.inl (fun _ => 1)))), ((a 200), .inr (21, [.int 0, .ref (a 201), .ref (a 202), .ref (a 203), .ref (a 204), .ref (a 205), .ref (a 206), .int 0, .int 0, .int 0, .int 0, .ref (a 208), .ref (a 209), .ref (a 210), .ref (a 211), .ref (a 212), .int 4, .int 12, .int (-1), .int 0, .ref q_100, .ref (a 213), .int 0, .int 97, .ref (a 214), .ref (a 215), .ref (a 207), .null, .int 0]))] H := hP
        have hD : va_D (va_A [] s.heap.size) [(o1, .inl (g 1, 1, .inr (.inl (fun _ => 1)))), ((a 200), .inr (21, [.int 0, .ref (a 201), .ref (a 202), .ref (a 203), .ref (a 204), .ref (a 205), .ref (a 206), .int 0, .int 0, .int 0, .int 0, .ref (a 208), .ref (a 209), .ref (a 210), .ref (a 211), .ref (a 212), .int 4, .int 12, .int (-1), .int 0, .ref q_100, .ref (a 213), .int 0, .int 97, .ref (a 214), .ref (a 215), .ref (a 207), .null, .int 0]))] := hD
        refine lv_istore (lv' := [(7, .int 1), (6, .int 0), (0, .ref b), (1, .ref (a 0)), (2, .ref (a 200)), (3, .ref o1), (4, .ref o2), (5, .int 0)]) hx hb dL_law_3153 hl (by decide) rfl (fun ls hl => ?_)
        refine lv_aload_n hx hb dL_law_3155 rfl (lv_at hl 4 rfl) ?_
        have hPc : va_P D vwCl [((a 200), .inr (21, [.int 0, .ref (a 201), .ref (a 202), .ref (a 203), .ref (a 204), .ref (a 205), .ref (a 206), .int 0, .int 0, .int 0, .int 0, .ref (a 208), .ref (a 209), .ref (a 210), .ref (a 211), .ref (a 212), .int 4, .int 12, .int (-1), .int 0, .ref q_100, .ref (a 213), .int 0, .int 97, .ref (a 214), .ref (a 215), .ref (a 207), .null, .int 0]))] _ := hP.sub (ws' := [((a 200), .inr (21, [.int 0, .ref (a 201), .ref (a 202), .ref (a 203), .ref (a 204), .ref (a 205), .ref (a 206), .int 0, .int 0, .int 0, .int 0, .ref (a 208), .ref (a 209), .ref (a 210), .ref (a 211), .ref (a 212), .int 4, .int 12, .int (-1), .int 0, .ref q_100, .ref (a 213), .int 0, .int 97, .ref (a 214), .ref (a 215), .ref (a 207), .null, .int 0]))]) [1] rfl
        have hDc : va_D (fun q => z0 ≤ q) [((a 200), .inr (21, [.int 0, .ref (a 201), .ref (a 202), .ref (a 203), .ref (a 204), .ref (a 205), .ref (a 206), .int 0, .int 0, .int 0, .int 0, .ref (a 208), .ref (a 209), .ref (a 210), .ref (a 211), .ref (a 212), .int 4, .int 12, .int (-1), .int 0, .ref q_100, .ref (a 213), .int 0, .int 97, .ref (a 214), .ref (a 215), .ref (a 207), .null, .int 0]))] := (hD.to hAz).pick (ws' := [((a 200), .inr (21, [.int 0, .ref (a 201), .ref (a 202), .ref (a 203), .ref (a 204), .ref (a 205), .ref (a 206), .int 0, .int 0, .int 0, .int 0, .ref (a 208), .ref (a 209), .ref (a 210), .ref (a 211), .ref (a 212), .int 4, .int 12, .int (-1), .int 0, .ref q_100, .ref (a 213), .int 0, .int 97, .ref (a 214), .ref (a 215), .ref (a 207), .null, .int 0]))]) [1] (by decide) rfl
        have hFc := va_free (wc := [((a 200), .inr (21, [.int 0, .ref (a 201), .ref (a 202), .ref (a 203), .ref (a 204), .ref (a 205), .ref (a 206), .int 0, .int 0, .int 0, .int 0, .ref (a 208), .ref (a 209), .ref (a 210), .ref (a 211), .ref (a 212), .int 4, .int 12, .int (-1), .int 0, .ref q_100, .ref (a 213), .int 0, .int 97, .ref (a 214), .ref (a 215), .ref (a 207), .null, .int 0]))]) hD hS hA [1] rfl
        refine va_calli (va_runV (As := []) (rest := []) ⟨hx, hb, hml, hown, ht⟩ (k_X15_thrown_v6 l D g z0 _ a q_100) (cwV 0 ht (gV w_772 w_774 w_775 w_334 w_773) rfl rfl rfl (by decide +kernel) (le2 rfl rfl)) ⟨PP.blind, va_recv hK.1 hP (ci := 21) (q0 := 1) rfl rfl, PP.mk' hK hZ hz hAz hS hPc hDc⟩ rfl rfl hl.1 rfl (lv_room (Nat.le_of_ble_eq_true rfl)) dL_law_3156 (le2 rfl rfl)) hS (fun q _ h => hFc q h) hFc (fun r u t H locs ht1 hvm hw hB hz1 hk1 hS => ?_)
        obtain ⟨rfl, hw⟩ := hw
        obtain ⟨hP1, hD1⟩ := hB
        rw [ht1] at hP1
        obtain ⟨hP, hD⟩ := va_join (wr := [(o1, .inl (g 1, 1, .inr (.inl (fun _ => 1))))]) (w1 := [((a 200), .inr (21, [.int 0, .ref (a 201), .ref (a 202), .ref (a 203), .ref (a 204), .ref (a 205), .ref (a 206), .int 0, .int 0, .int 0, .int 0, .ref (a 208), .ref (a 209), .ref (a 210), .ref (a 211), .ref (a 212), .int 4, .int 12, .int (-1), .int 0, .ref q_100, .ref (a 213), .int 0, .int 97, .ref (a 214), .ref (a 215), .ref (a 207), .null, .int 0]))]) hP hD [1] [0] rfl rfl (by decide) (by decide) hk1 hFc hP1 hD1
        have hP : va_P D vwCl [(o1, .inl (g 1, 1, .inr (.inl (fun _ => 1)))), ((a 200), .inr (21, [.int 0, .ref (a 201), .ref (a 202), .ref (a 203), .ref (a 204), .ref (a 205), .ref (a 206), .int 0, .int 0, .int 0, .int 0, .ref (a 208), .ref (a 209), .ref (a 210), .ref (a 211), .ref (a 212), .int 4, .int 12, .int (-1), .int 0, .ref q_100, .ref (a 213), .int 0, .int 97, .ref (a 214), .ref (a 215), .ref (a 207), .null, .int 0]))] H := hP
        have hD : va_D (va_A [] s.heap.size) [(o1, .inl (g 1, 1, .inr (.inl (fun _ => 1)))), ((a 200), .inr (21, [.int 0, .ref (a 201), .ref (a 202), .ref (a 203), .ref (a 204), .ref (a 205), .ref (a 206), .int 0, .int 0, .int 0, .int 0, .ref (a 208), .ref (a 209), .ref (a 210), .ref (a 211), .ref (a 212), .int 4, .int 12, .int (-1), .int 0, .ref q_100, .ref (a 213), .int 0, .int 97, .ref (a 214), .ref (a 215), .ref (a 207), .null, .int 0]))] := hD
        refine lv_iload hx hb dL_law_3159 (lv_at hl 1 rfl) ?_
        refine lv_icmp_eq (tgt := 3166) hx hb dL_law_3161 (by decide) (fun c_123 => ?_) (fun c_123 => ?_)
        · refine lv_iload hx hb dL_law_3166 (lv_at hl 1 rfl) ?_
          refine lv_if_ne (tgt := 3183) hx hb dL_law_3168 (by decide) (fun c_124 => ?_) (fun c_124 => ?_)
          · exact absurd c_124 (by decide)
          · refine lv_aload_n hx hb dL_law_3171 rfl (lv_at hl 5 rfl) ?_
            refine lv_iconst (v := 0) hx hb dL_law_3172 (by decide) ?_
            refine va_lald hx hb hK.1 hP 0 1 rfl rfl (by unfold vp_in; decide) dL_law_3173 ?_
            refine r_topl (v := 1) (by decide) ?_
            refine lv_iload hx hb dL_law_3174 (lv_at hl 0 rfl) ?_
            refine lv_i2l (v := 1) hx hb dL_law_3176 (by decide) ?_
            refine W.lcmp hx hb dL_law_3177 ?_
            refine r_topi (v := 0) (by decide) ?_
            refine lv_if_eq (tgt := 3183) hx hb dL_law_3178 (by decide) (fun c_125 => ?_) (fun c_125 => ?_)
            · refine lv_goto (tgt := 4264) hx hb dL_law_3183 (by decide) ?_
              refine W.widen (k := 200 + 300) (n := 8000 + 2000) (Nat.le_of_ble_eq_true rfl) (Nat.le_of_ble_eq_true rfl) ?_
              exact kk _ _ _ hS (lv_sub hl [7, 2] rfl)
            · exact absurd c_125 (by decide)
        · exact absurd c_123 (by decide)
      · obtain ⟨rfl, rfl, hw⟩ := hw
        have c_126 := hw
        exact absurd c_126 c_98
      · obtain ⟨rfl, rfl, hw⟩ := hw
        have c_127 := hw
        exact absurd c_127 c_97
    · obtain ⟨c_128, c_129, c_130, c_131⟩ := hw
      obtain ⟨hP1, hD1⟩ := hB
      rw [ht1] at hP1
      obtain ⟨hP, hD⟩ := va_join (wr := [((a 200), f_m a g)]) (w1 := [(o1, .inl (g 1, 1, .inr (.inl (fun _ => 1))))]) hP hD [4, 0, 2, 1] [3] rfl rfl (by decide) (by decide) hk1 hFc hP1 hD1
      have hP : va_P D vwCl [((a 200), f_m a g), (o1, .inl (g 1, 1, .inr (.inl (fun _ => 1))))] H := hP
      have hD : va_D (va_A [] s.heap.size) [((a 200), f_m a g), (o1, .inl (g 1, 1, .inr (.inl (fun _ => 1))))] := hD
      refine lv_istore (lv' := [(6, .int 0), (0, .ref b), (1, .ref (a 0)), (2, .ref (a 200)), (3, .ref o1), (4, .ref o2), (5, .int 0)]) hx hb dL_law_3140 hl (by decide) rfl (fun ls hl => ?_)
      refine lv_aload_n hx hb dL_law_3142 rfl (lv_at hl 3 rfl) ?_
      refine lv_aload_n hx hb dL_law_3143 rfl (lv_at hl 1 rfl) ?_
      refine lv_iload hx hb dL_law_3144 (lv_at hl 6 rfl) ?_
      refine lv_iconst (v := 1) hx hb dL_law_3146 (by decide) ?_
      refine lv_iadd hx hb dL_law_3147 ?_
      refine r_topi (v := 1) (by decide) ?_
      refine va_sld hx hb hX hbl hbA hS (by unfold vp_in; decide) dL_law_3148 ?_
      refine r_topi (v := xs 1) (congrArg xs (by decide)) ?_
      refine lv_i2c (v := ((xs 1).toUInt32 % 65536).toInt32) hx hb dL_law_3149 rfl ?_
      have hPc : va_P D vwCl [((a 200), f_m a g)] _ := hP.sub (ws' := [((a 200), f_m a g)]) [0] rfl
      have hDc : va_D (fun q => z0 ≤ q) [((a 200), f_m a g)] := (hD.to hAz).pick (ws' := [((a 200), f_m a g)]) [0] (by decide) rfl
      have hFc := va_free (wc := [((a 200), f_m a g)]) hD hS hA [0] rfl
      refine va_calli (va_runV (As := [.int (((xs 1).toUInt32 % 65536).toInt32)]) (rest := []) ⟨hx, hb, hml, hown, ht⟩ (k_X15_march l D g z0 _ a (((xs 1).toUInt32 % 65536).toInt32) (isC_i2c _)) (cwV 1 ht (gV w_1399 w_1401 w_1402 w_334 w_1400) rfl rfl rfl (by decide +kernel) (le2 rfl rfl)) ⟨PP.blind, va_recv hK.1 hP (ci := 21) (q0 := 0) rfl rfl, PP.mk' hK hZ hz hAz hS hPc hDc⟩ rfl rfl hl.1 rfl (lv_room (Nat.le_of_ble_eq_true rfl)) dL_law_3150 (le2 rfl rfl)) hS (fun q _ h => hFc q h) hFc (fun r u t H locs ht1 hvm hw hB hz1 hk1 hS => ?_)
      obtain ⟨u0, q_132⟩ := u
      rcases hw with hw | hw | hw | hw | hw | hw | hw
      · obtain ⟨rfl, rfl, hw⟩ := hw
        rcases hw with hw | hw | hw
        · obtain ⟨c_133, c_134, c_135, c_136, c_137, c_138⟩ := hw
          exact absurd c_131 c_136
        · obtain ⟨c_139, c_140, c_141, c_142, c_143, c_144⟩ := hw
          exact absurd c_131 c_142
        · obtain ⟨c_145, c_146, c_147, c_148, c_149, c_150⟩ := hw
          exact absurd c_131 c_148
      · obtain ⟨rfl, rfl, hw⟩ := hw
        have c_151 := hw
        exact absurd (c_131.symm.trans c_151) (by decide)
      · obtain ⟨rfl, rfl, hw⟩ := hw
        have c_152 := hw
        exact absurd (c_131.symm.trans c_152) (by decide)
      · obtain ⟨rfl, rfl, hw⟩ := hw
        have c_153 := hw
        obtain ⟨hP1, hD1⟩ := hB
        rw [ht1] at hP1
        obtain ⟨hP, hD⟩ := va_join (wr := [(o1, .inl (g 1, 1, .inr (.inl (fun _ => 1))))]) (w1 := [((a 200), .inr (21, [.int 0, .ref (a 201), .ref (a 202), .ref (a 203), .ref (a 204), .ref (a 205), .ref (a 206), .int 0, .int 0, .int 0, .int 0, .ref (a 208), .ref (a 209), .ref (a 210), .ref (a 211), .ref (a 212), .int 4, .int 12, .int (-1), .int 0, .ref q_132, .ref (a 213), .int 0, .int 97, .ref (a 214), .ref (a 215), .ref (a 207), .null, .int 0]))]) hP hD [0] [1] rfl rfl (by decide) (by decide) hk1 hFc hP1 hD1
        have hP : va_P D vwCl [(o1, .inl (g 1, 1, .inr (.inl (fun _ => 1)))), ((a 200), .inr (21, [.int 0, .ref (a 201), .ref (a 202), .ref (a 203), .ref (a 204), .ref (a 205), .ref (a 206), .int 0, .int 0, .int 0, .int 0, .ref (a 208), .ref (a 209), .ref (a 210), .ref (a 211), .ref (a 212), .int 4, .int 12, .int (-1), .int 0, .ref q_132, .ref (a 213), .int 0, .int 97, .ref (a 214), .ref (a 215), .ref (a 207), .null, .int 0]))] H := hP
        have hD : va_D (va_A [] s.heap.size) [(o1, .inl (g 1, 1, .inr (.inl (fun _ => 1)))), ((a 200), .inr (21, [.int 0, .ref (a 201), .ref (a 202), .ref (a 203), .ref (a 204), .ref (a 205), .ref (a 206), .int 0, .int 0, .int 0, .int 0, .ref (a 208), .ref (a 209), .ref (a 210), .ref (a 211), .ref (a 212), .int 4, .int 12, .int (-1), .int 0, .ref q_132, .ref (a 213), .int 0, .int 97, .ref (a 214), .ref (a 215), .ref (a 207), .null, .int 0]))] := hD
        refine lv_istore (lv' := [(7, .int 1), (6, .int 0), (0, .ref b), (1, .ref (a 0)), (2, .ref (a 200)), (3, .ref o1), (4, .ref o2), (5, .int 0)]) hx hb dL_law_3153 hl (by decide) rfl (fun ls hl => ?_)
        refine lv_aload_n hx hb dL_law_3155 rfl (lv_at hl 4 rfl) ?_
        have hPc : va_P D vwCl [((a 200), .inr (21, [.int 0, .ref (a 201), .ref (a 202), .ref (a 203), .ref (a 204), .ref (a 205), .ref (a 206), .int 0, .int 0, .int 0, .int 0, .ref (a 208), .ref (a 209), .ref (a 210), .ref (a 211), .ref (a 212), .int 4, .int 12, .int (-1), .int 0, .ref q_132, .ref (a 213), .int 0, .int 97, .ref (a 214), .ref (a 215), .ref (a 207), .null, .int 0]))] _ := hP.sub (ws' := [((a 200), .inr (21, [.int 0, .ref (a 201), .ref (a 202), .ref (a 203), .ref (a 204), .ref (a 205), .ref (a 206), .int 0, .int 0, .int 0, .int 0, .ref (a 208), .ref (a 209), .ref (a 210), .ref (a 211), .ref (a 212), .int 4, .int 12, .int (-1), .int 0, .ref q_132, .ref (a 213), .int 0, .int 97, .ref (a 214), .ref (a 215), .ref (a 207), .null, .int 0]))]) [1] rfl
        have hDc : va_D (fun q => z0 ≤ q) [((a 200), .inr (21, [.int 0, .ref (a 201), .ref (a 202), .ref (a 203), .ref (a 204), .ref (a 205), .ref (a 206), .int 0, .int 0, .int 0, .int 0, .ref (a 208), .ref (a 209), .ref (a 210), .ref (a 211), .ref (a 212), .int 4, .int 12, .int (-1), .int 0, .ref q_132, .ref (a 213), .int 0, .int 97, .ref (a 214), .ref (a 215), .ref (a 207), .null, .int 0]))] := (hD.to hAz).pick (ws' := [((a 200), .inr (21, [.int 0, .ref (a 201), .ref (a 202), .ref (a 203), .ref (a 204), .ref (a 205), .ref (a 206), .int 0, .int 0, .int 0, .int 0, .ref (a 208), .ref (a 209), .ref (a 210), .ref (a 211), .ref (a 212), .int 4, .int 12, .int (-1), .int 0, .ref q_132, .ref (a 213), .int 0, .int 97, .ref (a 214), .ref (a 215), .ref (a 207), .null, .int 0]))]) [1] (by decide) rfl
        have hFc := va_free (wc := [((a 200), .inr (21, [.int 0, .ref (a 201), .ref (a 202), .ref (a 203), .ref (a 204), .ref (a 205), .ref (a 206), .int 0, .int 0, .int 0, .int 0, .ref (a 208), .ref (a 209), .ref (a 210), .ref (a 211), .ref (a 212), .int 4, .int 12, .int (-1), .int 0, .ref q_132, .ref (a 213), .int 0, .int 97, .ref (a 214), .ref (a 215), .ref (a 207), .null, .int 0]))]) hD hS hA [1] rfl
        refine va_calli (va_runV (As := []) (rest := []) ⟨hx, hb, hml, hown, ht⟩ (k_X15_thrown_v6 l D g z0 _ a q_132) (cwV 0 ht (gV w_772 w_774 w_775 w_334 w_773) rfl rfl rfl (by decide +kernel) (le2 rfl rfl)) ⟨PP.blind, va_recv hK.1 hP (ci := 21) (q0 := 1) rfl rfl, PP.mk' hK hZ hz hAz hS hPc hDc⟩ rfl rfl hl.1 rfl (lv_room (Nat.le_of_ble_eq_true rfl)) dL_law_3156 (le2 rfl rfl)) hS (fun q _ h => hFc q h) hFc (fun r u t H locs ht1 hvm hw hB hz1 hk1 hS => ?_)
        obtain ⟨rfl, hw⟩ := hw
        obtain ⟨hP1, hD1⟩ := hB
        rw [ht1] at hP1
        obtain ⟨hP, hD⟩ := va_join (wr := [(o1, .inl (g 1, 1, .inr (.inl (fun _ => 1))))]) (w1 := [((a 200), .inr (21, [.int 0, .ref (a 201), .ref (a 202), .ref (a 203), .ref (a 204), .ref (a 205), .ref (a 206), .int 0, .int 0, .int 0, .int 0, .ref (a 208), .ref (a 209), .ref (a 210), .ref (a 211), .ref (a 212), .int 4, .int 12, .int (-1), .int 0, .ref q_132, .ref (a 213), .int 0, .int 97, .ref (a 214), .ref (a 215), .ref (a 207), .null, .int 0]))]) hP hD [1] [0] rfl rfl (by decide) (by decide) hk1 hFc hP1 hD1
        have hP : va_P D vwCl [(o1, .inl (g 1, 1, .inr (.inl (fun _ => 1)))), ((a 200), .inr (21, [.int 0, .ref (a 201), .ref (a 202), .ref (a 203), .ref (a 204), .ref (a 205), .ref (a 206), .int 0, .int 0, .int 0, .int 0, .ref (a 208), .ref (a 209), .ref (a 210), .ref (a 211), .ref (a 212), .int 4, .int 12, .int (-1), .int 0, .ref q_132, .ref (a 213), .int 0, .int 97, .ref (a 214), .ref (a 215), .ref (a 207), .null, .int 0]))] H := hP
        have hD : va_D (va_A [] s.heap.size) [(o1, .inl (g 1, 1, .inr (.inl (fun _ => 1)))), ((a 200), .inr (21, [.int 0, .ref (a 201), .ref (a 202), .ref (a 203), .ref (a 204), .ref (a 205), .ref (a 206), .int 0, .int 0, .int 0, .int 0, .ref (a 208), .ref (a 209), .ref (a 210), .ref (a 211), .ref (a 212), .int 4, .int 12, .int (-1), .int 0, .ref q_132, .ref (a 213), .int 0, .int 97, .ref (a 214), .ref (a 215), .ref (a 207), .null, .int 0]))] := hD
        refine lv_iload hx hb dL_law_3159 (lv_at hl 1 rfl) ?_
        refine lv_icmp_eq (tgt := 3166) hx hb dL_law_3161 (by decide) (fun c_154 => ?_) (fun c_154 => ?_)
        · refine lv_iload hx hb dL_law_3166 (lv_at hl 1 rfl) ?_
          refine lv_if_ne (tgt := 3183) hx hb dL_law_3168 (by decide) (fun c_155 => ?_) (fun c_155 => ?_)
          · exact absurd c_155 (by decide)
          · refine lv_aload_n hx hb dL_law_3171 rfl (lv_at hl 5 rfl) ?_
            refine lv_iconst (v := 0) hx hb dL_law_3172 (by decide) ?_
            refine va_lald hx hb hK.1 hP 0 1 rfl rfl (by unfold vp_in; decide) dL_law_3173 ?_
            refine r_topl (v := 1) (by decide) ?_
            refine lv_iload hx hb dL_law_3174 (lv_at hl 0 rfl) ?_
            refine lv_i2l (v := 1) hx hb dL_law_3176 (by decide) ?_
            refine W.lcmp hx hb dL_law_3177 ?_
            refine r_topi (v := 0) (by decide) ?_
            refine lv_if_eq (tgt := 3183) hx hb dL_law_3178 (by decide) (fun c_156 => ?_) (fun c_156 => ?_)
            · refine lv_goto (tgt := 4264) hx hb dL_law_3183 (by decide) ?_
              refine W.widen (k := 200 + 300) (n := 8000 + 2000) (Nat.le_of_ble_eq_true rfl) (Nat.le_of_ble_eq_true rfl) ?_
              exact kk _ _ _ hS (lv_sub hl [7, 2] rfl)
            · exact absurd c_156 (by decide)
        · exact absurd c_154 (by decide)
      · obtain ⟨rfl, rfl, hw⟩ := hw
        have c_157 := hw
        exact absurd c_157 c_130
      · obtain ⟨rfl, rfl, hw⟩ := hw
        have c_158 := hw
        exact absurd c_158 c_129
      · obtain ⟨rfl, rfl, hw⟩ := hw
        have c_159 := hw
        exact absurd c_159 c_128
    · obtain ⟨c_160, c_161, c_162, c_163, c_164⟩ := hw
      obtain ⟨hP1, hD1⟩ := hB
      rw [ht1] at hP1
      obtain ⟨hP, hD⟩ := va_join (wr := [((a 200), f_m a g)]) (w1 := [(o1, .inl (g 1, 1, .inr (.inl (fun _ => 1))))]) hP hD [4, 0, 2, 1] [3] rfl rfl (by decide) (by decide) hk1 hFc hP1 hD1
      have hP : va_P D vwCl [((a 200), f_m a g), (o1, .inl (g 1, 1, .inr (.inl (fun _ => 1))))] H := hP
      have hD : va_D (va_A [] s.heap.size) [((a 200), f_m a g), (o1, .inl (g 1, 1, .inr (.inl (fun _ => 1))))] := hD
      refine lv_istore (lv' := [(6, .int 0), (0, .ref b), (1, .ref (a 0)), (2, .ref (a 200)), (3, .ref o1), (4, .ref o2), (5, .int 0)]) hx hb dL_law_3140 hl (by decide) rfl (fun ls hl => ?_)
      refine lv_aload_n hx hb dL_law_3142 rfl (lv_at hl 3 rfl) ?_
      refine lv_aload_n hx hb dL_law_3143 rfl (lv_at hl 1 rfl) ?_
      refine lv_iload hx hb dL_law_3144 (lv_at hl 6 rfl) ?_
      refine lv_iconst (v := 1) hx hb dL_law_3146 (by decide) ?_
      refine lv_iadd hx hb dL_law_3147 ?_
      refine r_topi (v := 1) (by decide) ?_
      refine va_sld hx hb hX hbl hbA hS (by unfold vp_in; decide) dL_law_3148 ?_
      refine r_topi (v := xs 1) (congrArg xs (by decide)) ?_
      refine lv_i2c (v := ((xs 1).toUInt32 % 65536).toInt32) hx hb dL_law_3149 rfl ?_
      have hPc : va_P D vwCl [((a 200), f_m a g)] _ := hP.sub (ws' := [((a 200), f_m a g)]) [0] rfl
      have hDc : va_D (fun q => z0 ≤ q) [((a 200), f_m a g)] := (hD.to hAz).pick (ws' := [((a 200), f_m a g)]) [0] (by decide) rfl
      have hFc := va_free (wc := [((a 200), f_m a g)]) hD hS hA [0] rfl
      refine va_calli (va_runV (As := [.int (((xs 1).toUInt32 % 65536).toInt32)]) (rest := []) ⟨hx, hb, hml, hown, ht⟩ (k_X15_march l D g z0 _ a (((xs 1).toUInt32 % 65536).toInt32) (isC_i2c _)) (cwV 1 ht (gV w_1399 w_1401 w_1402 w_334 w_1400) rfl rfl rfl (by decide +kernel) (le2 rfl rfl)) ⟨PP.blind, va_recv hK.1 hP (ci := 21) (q0 := 0) rfl rfl, PP.mk' hK hZ hz hAz hS hPc hDc⟩ rfl rfl hl.1 rfl (lv_room (Nat.le_of_ble_eq_true rfl)) dL_law_3150 (le2 rfl rfl)) hS (fun q _ h => hFc q h) hFc (fun r u t H locs ht1 hvm hw hB hz1 hk1 hS => ?_)
      obtain ⟨u0, q_165⟩ := u
      rcases hw with hw | hw | hw | hw | hw | hw | hw
      · obtain ⟨rfl, rfl, hw⟩ := hw
        rcases hw with hw | hw | hw
        · obtain ⟨c_166, c_167, c_168, c_169, c_170, c_171⟩ := hw
          exact absurd c_164 c_170
        · obtain ⟨c_172, c_173, c_174, c_175, c_176, c_177⟩ := hw
          exact absurd c_164 c_176
        · obtain ⟨c_178, c_179, c_180, c_181, c_182, c_183⟩ := hw
          exact absurd c_164 c_182
      · obtain ⟨rfl, rfl, hw⟩ := hw
        have c_184 := hw
        exact absurd (c_164.symm.trans c_184) (by decide)
      · obtain ⟨rfl, rfl, hw⟩ := hw
        have c_185 := hw
        obtain ⟨hP1, hD1⟩ := hB
        rw [ht1] at hP1
        obtain ⟨hP, hD⟩ := va_join (wr := [(o1, .inl (g 1, 1, .inr (.inl (fun _ => 1))))]) (w1 := [((a 200), .inr (21, [.int 0, .ref (a 201), .ref (a 202), .ref (a 203), .ref (a 204), .ref (a 205), .ref (a 206), .int 0, .int 0, .int 0, .int 0, .ref (a 208), .ref (a 209), .ref (a 210), .ref (a 211), .ref (a 212), .int 4, .int 12, .int (-1), .int 0, .ref q_165, .ref (a 213), .int 0, .int 97, .ref (a 214), .ref (a 215), .ref (a 207), .null, .int 0]))]) hP hD [0] [1] rfl rfl (by decide) (by decide) hk1 hFc hP1 hD1
        have hP : va_P D vwCl [(o1, .inl (g 1, 1, .inr (.inl (fun _ => 1)))), ((a 200), .inr (21, [.int 0, .ref (a 201), .ref (a 202), .ref (a 203), .ref (a 204), .ref (a 205), .ref (a 206), .int 0, .int 0, .int 0, .int 0, .ref (a 208), .ref (a 209), .ref (a 210), .ref (a 211), .ref (a 212), .int 4, .int 12, .int (-1), .int 0, .ref q_165, .ref (a 213), .int 0, .int 97, .ref (a 214), .ref (a 215), .ref (a 207), .null, .int 0]))] H := hP
        have hD : va_D (va_A [] s.heap.size) [(o1, .inl (g 1, 1, .inr (.inl (fun _ => 1)))), ((a 200), .inr (21, [.int 0, .ref (a 201), .ref (a 202), .ref (a 203), .ref (a 204), .ref (a 205), .ref (a 206), .int 0, .int 0, .int 0, .int 0, .ref (a 208), .ref (a 209), .ref (a 210), .ref (a 211), .ref (a 212), .int 4, .int 12, .int (-1), .int 0, .ref q_165, .ref (a 213), .int 0, .int 97, .ref (a 214), .ref (a 215), .ref (a 207), .null, .int 0]))] := hD
        refine lv_istore (lv' := [(7, .int 1), (6, .int 0), (0, .ref b), (1, .ref (a 0)), (2, .ref (a 200)), (3, .ref o1), (4, .ref o2), (5, .int 0)]) hx hb dL_law_3153 hl (by decide) rfl (fun ls hl => ?_)
        refine lv_aload_n hx hb dL_law_3155 rfl (lv_at hl 4 rfl) ?_
        have hPc : va_P D vwCl [((a 200), .inr (21, [.int 0, .ref (a 201), .ref (a 202), .ref (a 203), .ref (a 204), .ref (a 205), .ref (a 206), .int 0, .int 0, .int 0, .int 0, .ref (a 208), .ref (a 209), .ref (a 210), .ref (a 211), .ref (a 212), .int 4, .int 12, .int (-1), .int 0, .ref q_165, .ref (a 213), .int 0, .int 97, .ref (a 214), .ref (a 215), .ref (a 207), .null, .int 0]))] _ := hP.sub (ws' := [((a 200), .inr (21, [.int 0, .ref (a 201), .ref (a 202), .ref (a 203), .ref (a 204), .ref (a 205), .ref (a 206), .int 0, .int 0, .int 0, .int 0, .ref (a 208), .ref (a 209), .ref (a 210), .ref (a 211), .ref (a 212), .int 4, .int 12, .int (-1), .int 0, .ref q_165, .ref (a 213), .int 0, .int 97, .ref (a 214), .ref (a 215), .ref (a 207), .null, .int 0]))]) [1] rfl
        have hDc : va_D (fun q => z0 ≤ q) [((a 200), .inr (21, [.int 0, .ref (a 201), .ref (a 202), .ref (a 203), .ref (a 204), .ref (a 205), .ref (a 206), .int 0, .int 0, .int 0, .int 0, .ref (a 208), .ref (a 209), .ref (a 210), .ref (a 211), .ref (a 212), .int 4, .int 12, .int (-1), .int 0, .ref q_165, .ref (a 213), .int 0, .int 97, .ref (a 214), .ref (a 215), .ref (a 207), .null, .int 0]))] := (hD.to hAz).pick (ws' := [((a 200), .inr (21, [.int 0, .ref (a 201), .ref (a 202), .ref (a 203), .ref (a 204), .ref (a 205), .ref (a 206), .int 0, .int 0, .int 0, .int 0, .ref (a 208), .ref (a 209), .ref (a 210), .ref (a 211), .ref (a 212), .int 4, .int 12, .int (-1), .int 0, .ref q_165, .ref (a 213), .int 0, .int 97, .ref (a 214), .ref (a 215), .ref (a 207), .null, .int 0]))]) [1] (by decide) rfl
        have hFc := va_free (wc := [((a 200), .inr (21, [.int 0, .ref (a 201), .ref (a 202), .ref (a 203), .ref (a 204), .ref (a 205), .ref (a 206), .int 0, .int 0, .int 0, .int 0, .ref (a 208), .ref (a 209), .ref (a 210), .ref (a 211), .ref (a 212), .int 4, .int 12, .int (-1), .int 0, .ref q_165, .ref (a 213), .int 0, .int 97, .ref (a 214), .ref (a 215), .ref (a 207), .null, .int 0]))]) hD hS hA [1] rfl
        refine va_calli (va_runV (As := []) (rest := []) ⟨hx, hb, hml, hown, ht⟩ (k_X15_thrown_v6 l D g z0 _ a q_165) (cwV 0 ht (gV w_772 w_774 w_775 w_334 w_773) rfl rfl rfl (by decide +kernel) (le2 rfl rfl)) ⟨PP.blind, va_recv hK.1 hP (ci := 21) (q0 := 1) rfl rfl, PP.mk' hK hZ hz hAz hS hPc hDc⟩ rfl rfl hl.1 rfl (lv_room (Nat.le_of_ble_eq_true rfl)) dL_law_3156 (le2 rfl rfl)) hS (fun q _ h => hFc q h) hFc (fun r u t H locs ht1 hvm hw hB hz1 hk1 hS => ?_)
        obtain ⟨rfl, hw⟩ := hw
        obtain ⟨hP1, hD1⟩ := hB
        rw [ht1] at hP1
        obtain ⟨hP, hD⟩ := va_join (wr := [(o1, .inl (g 1, 1, .inr (.inl (fun _ => 1))))]) (w1 := [((a 200), .inr (21, [.int 0, .ref (a 201), .ref (a 202), .ref (a 203), .ref (a 204), .ref (a 205), .ref (a 206), .int 0, .int 0, .int 0, .int 0, .ref (a 208), .ref (a 209), .ref (a 210), .ref (a 211), .ref (a 212), .int 4, .int 12, .int (-1), .int 0, .ref q_165, .ref (a 213), .int 0, .int 97, .ref (a 214), .ref (a 215), .ref (a 207), .null, .int 0]))]) hP hD [1] [0] rfl rfl (by decide) (by decide) hk1 hFc hP1 hD1
        have hP : va_P D vwCl [(o1, .inl (g 1, 1, .inr (.inl (fun _ => 1)))), ((a 200), .inr (21, [.int 0, .ref (a 201), .ref (a 202), .ref (a 203), .ref (a 204), .ref (a 205), .ref (a 206), .int 0, .int 0, .int 0, .int 0, .ref (a 208), .ref (a 209), .ref (a 210), .ref (a 211), .ref (a 212), .int 4, .int 12, .int (-1), .int 0, .ref q_165, .ref (a 213), .int 0, .int 97, .ref (a 214), .ref (a 215), .ref (a 207), .null, .int 0]))] H := hP
        have hD : va_D (va_A [] s.heap.size) [(o1, .inl (g 1, 1, .inr (.inl (fun _ => 1)))), ((a 200), .inr (21, [.int 0, .ref (a 201), .ref (a 202), .ref (a 203), .ref (a 204), .ref (a 205), .ref (a 206), .int 0, .int 0, .int 0, .int 0, .ref (a 208), .ref (a 209), .ref (a 210), .ref (a 211), .ref (a 212), .int 4, .int 12, .int (-1), .int 0, .ref q_165, .ref (a 213), .int 0, .int 97, .ref (a 214), .ref (a 215), .ref (a 207), .null, .int 0]))] := hD
        refine lv_iload hx hb dL_law_3159 (lv_at hl 1 rfl) ?_
        refine lv_icmp_eq (tgt := 3166) hx hb dL_law_3161 (by decide) (fun c_186 => ?_) (fun c_186 => ?_)
        · refine lv_iload hx hb dL_law_3166 (lv_at hl 1 rfl) ?_
          refine lv_if_ne (tgt := 3183) hx hb dL_law_3168 (by decide) (fun c_187 => ?_) (fun c_187 => ?_)
          · exact absurd c_187 (by decide)
          · refine lv_aload_n hx hb dL_law_3171 rfl (lv_at hl 5 rfl) ?_
            refine lv_iconst (v := 0) hx hb dL_law_3172 (by decide) ?_
            refine va_lald hx hb hK.1 hP 0 1 rfl rfl (by unfold vp_in; decide) dL_law_3173 ?_
            refine r_topl (v := 1) (by decide) ?_
            refine lv_iload hx hb dL_law_3174 (lv_at hl 0 rfl) ?_
            refine lv_i2l (v := 1) hx hb dL_law_3176 (by decide) ?_
            refine W.lcmp hx hb dL_law_3177 ?_
            refine r_topi (v := 0) (by decide) ?_
            refine lv_if_eq (tgt := 3183) hx hb dL_law_3178 (by decide) (fun c_188 => ?_) (fun c_188 => ?_)
            · refine lv_goto (tgt := 4264) hx hb dL_law_3183 (by decide) ?_
              refine W.widen (k := 200 + 300) (n := 8000 + 2000) (Nat.le_of_ble_eq_true rfl) (Nat.le_of_ble_eq_true rfl) ?_
              exact kk _ _ _ hS (lv_sub hl [7, 2] rfl)
            · exact absurd c_188 (by decide)
        · exact absurd c_186 (by decide)
      · obtain ⟨rfl, rfl, hw⟩ := hw
        have c_189 := hw
        exact absurd c_189 c_163
      · obtain ⟨rfl, rfl, hw⟩ := hw
        have c_190 := hw
        exact absurd c_190 c_162
      · obtain ⟨rfl, rfl, hw⟩ := hw
        have c_191 := hw
        exact absurd c_191 c_161
      · obtain ⟨rfl, rfl, hw⟩ := hw
        have c_192 := hw
        exact absurd c_192 c_160
    · obtain ⟨c_193, c_194, c_195, c_196, c_197, c_198⟩ := hw
      obtain ⟨hP1, hD1⟩ := hB
      rw [ht1] at hP1
      obtain ⟨hP, hD⟩ := va_join (wr := [((a 200), f_m a g)]) (w1 := [(o1, .inl (g 1, 1, .inr (.inl (fun _ => 1))))]) hP hD [4, 0, 2, 1] [3] rfl rfl (by decide) (by decide) hk1 hFc hP1 hD1
      have hP : va_P D vwCl [((a 200), f_m a g), (o1, .inl (g 1, 1, .inr (.inl (fun _ => 1))))] H := hP
      have hD : va_D (va_A [] s.heap.size) [((a 200), f_m a g), (o1, .inl (g 1, 1, .inr (.inl (fun _ => 1))))] := hD
      refine lv_istore (lv' := [(6, .int 0), (0, .ref b), (1, .ref (a 0)), (2, .ref (a 200)), (3, .ref o1), (4, .ref o2), (5, .int 0)]) hx hb dL_law_3140 hl (by decide) rfl (fun ls hl => ?_)
      refine lv_aload_n hx hb dL_law_3142 rfl (lv_at hl 3 rfl) ?_
      refine lv_aload_n hx hb dL_law_3143 rfl (lv_at hl 1 rfl) ?_
      refine lv_iload hx hb dL_law_3144 (lv_at hl 6 rfl) ?_
      refine lv_iconst (v := 1) hx hb dL_law_3146 (by decide) ?_
      refine lv_iadd hx hb dL_law_3147 ?_
      refine r_topi (v := 1) (by decide) ?_
      refine va_sld hx hb hX hbl hbA hS (by unfold vp_in; decide) dL_law_3148 ?_
      refine r_topi (v := xs 1) (congrArg xs (by decide)) ?_
      refine lv_i2c (v := ((xs 1).toUInt32 % 65536).toInt32) hx hb dL_law_3149 rfl ?_
      have hPc : va_P D vwCl [((a 200), f_m a g)] _ := hP.sub (ws' := [((a 200), f_m a g)]) [0] rfl
      have hDc : va_D (fun q => z0 ≤ q) [((a 200), f_m a g)] := (hD.to hAz).pick (ws' := [((a 200), f_m a g)]) [0] (by decide) rfl
      have hFc := va_free (wc := [((a 200), f_m a g)]) hD hS hA [0] rfl
      refine va_calli (va_runV (As := [.int (((xs 1).toUInt32 % 65536).toInt32)]) (rest := []) ⟨hx, hb, hml, hown, ht⟩ (k_X15_march l D g z0 _ a (((xs 1).toUInt32 % 65536).toInt32) (isC_i2c _)) (cwV 1 ht (gV w_1399 w_1401 w_1402 w_334 w_1400) rfl rfl rfl (by decide +kernel) (le2 rfl rfl)) ⟨PP.blind, va_recv hK.1 hP (ci := 21) (q0 := 0) rfl rfl, PP.mk' hK hZ hz hAz hS hPc hDc⟩ rfl rfl hl.1 rfl (lv_room (Nat.le_of_ble_eq_true rfl)) dL_law_3150 (le2 rfl rfl)) hS (fun q _ h => hFc q h) hFc (fun r u t H locs ht1 hvm hw hB hz1 hk1 hS => ?_)
      obtain ⟨u0, q_199⟩ := u
      rcases hw with hw | hw | hw | hw | hw | hw | hw
      · obtain ⟨rfl, rfl, hw⟩ := hw
        rcases hw with hw | hw | hw
        · obtain ⟨c_200, c_201, c_202, c_203, c_204, c_205⟩ := hw
          exact absurd c_198 c_205
        · obtain ⟨c_206, c_207, c_208, c_209, c_210, c_211⟩ := hw
          exact absurd c_198 c_211
        · obtain ⟨c_212, c_213, c_214, c_215, c_216, c_217⟩ := hw
          exact absurd c_198 c_217
      · obtain ⟨rfl, rfl, hw⟩ := hw
        have c_218 := hw
        obtain ⟨hP1, hD1⟩ := hB
        rw [ht1] at hP1
        obtain ⟨hP, hD⟩ := va_join (wr := [(o1, .inl (g 1, 1, .inr (.inl (fun _ => 1))))]) (w1 := [((a 200), .inr (21, [.int 0, .ref (a 201), .ref (a 202), .ref (a 203), .ref (a 204), .ref (a 205), .ref (a 206), .int 0, .int 0, .int 0, .int 0, .ref (a 208), .ref (a 209), .ref (a 210), .ref (a 211), .ref (a 212), .int 4, .int 12, .int (-1), .int 0, .ref q_199, .ref (a 213), .int 0, .int 97, .ref (a 214), .ref (a 215), .ref (a 207), .null, .int 0]))]) hP hD [0] [1] rfl rfl (by decide) (by decide) hk1 hFc hP1 hD1
        have hP : va_P D vwCl [(o1, .inl (g 1, 1, .inr (.inl (fun _ => 1)))), ((a 200), .inr (21, [.int 0, .ref (a 201), .ref (a 202), .ref (a 203), .ref (a 204), .ref (a 205), .ref (a 206), .int 0, .int 0, .int 0, .int 0, .ref (a 208), .ref (a 209), .ref (a 210), .ref (a 211), .ref (a 212), .int 4, .int 12, .int (-1), .int 0, .ref q_199, .ref (a 213), .int 0, .int 97, .ref (a 214), .ref (a 215), .ref (a 207), .null, .int 0]))] H := hP
        have hD : va_D (va_A [] s.heap.size) [(o1, .inl (g 1, 1, .inr (.inl (fun _ => 1)))), ((a 200), .inr (21, [.int 0, .ref (a 201), .ref (a 202), .ref (a 203), .ref (a 204), .ref (a 205), .ref (a 206), .int 0, .int 0, .int 0, .int 0, .ref (a 208), .ref (a 209), .ref (a 210), .ref (a 211), .ref (a 212), .int 4, .int 12, .int (-1), .int 0, .ref q_199, .ref (a 213), .int 0, .int 97, .ref (a 214), .ref (a 215), .ref (a 207), .null, .int 0]))] := hD
        refine lv_istore (lv' := [(7, .int 1), (6, .int 0), (0, .ref b), (1, .ref (a 0)), (2, .ref (a 200)), (3, .ref o1), (4, .ref o2), (5, .int 0)]) hx hb dL_law_3153 hl (by decide) rfl (fun ls hl => ?_)
        refine lv_aload_n hx hb dL_law_3155 rfl (lv_at hl 4 rfl) ?_
        have hPc : va_P D vwCl [((a 200), .inr (21, [.int 0, .ref (a 201), .ref (a 202), .ref (a 203), .ref (a 204), .ref (a 205), .ref (a 206), .int 0, .int 0, .int 0, .int 0, .ref (a 208), .ref (a 209), .ref (a 210), .ref (a 211), .ref (a 212), .int 4, .int 12, .int (-1), .int 0, .ref q_199, .ref (a 213), .int 0, .int 97, .ref (a 214), .ref (a 215), .ref (a 207), .null, .int 0]))] _ := hP.sub (ws' := [((a 200), .inr (21, [.int 0, .ref (a 201), .ref (a 202), .ref (a 203), .ref (a 204), .ref (a 205), .ref (a 206), .int 0, .int 0, .int 0, .int 0, .ref (a 208), .ref (a 209), .ref (a 210), .ref (a 211), .ref (a 212), .int 4, .int 12, .int (-1), .int 0, .ref q_199, .ref (a 213), .int 0, .int 97, .ref (a 214), .ref (a 215), .ref (a 207), .null, .int 0]))]) [1] rfl
        have hDc : va_D (fun q => z0 ≤ q) [((a 200), .inr (21, [.int 0, .ref (a 201), .ref (a 202), .ref (a 203), .ref (a 204), .ref (a 205), .ref (a 206), .int 0, .int 0, .int 0, .int 0, .ref (a 208), .ref (a 209), .ref (a 210), .ref (a 211), .ref (a 212), .int 4, .int 12, .int (-1), .int 0, .ref q_199, .ref (a 213), .int 0, .int 97, .ref (a 214), .ref (a 215), .ref (a 207), .null, .int 0]))] := (hD.to hAz).pick (ws' := [((a 200), .inr (21, [.int 0, .ref (a 201), .ref (a 202), .ref (a 203), .ref (a 204), .ref (a 205), .ref (a 206), .int 0, .int 0, .int 0, .int 0, .ref (a 208), .ref (a 209), .ref (a 210), .ref (a 211), .ref (a 212), .int 4, .int 12, .int (-1), .int 0, .ref q_199, .ref (a 213), .int 0, .int 97, .ref (a 214), .ref (a 215), .ref (a 207), .null, .int 0]))]) [1] (by decide) rfl
        have hFc := va_free (wc := [((a 200), .inr (21, [.int 0, .ref (a 201), .ref (a 202), .ref (a 203), .ref (a 204), .ref (a 205), .ref (a 206), .int 0, .int 0, .int 0, .int 0, .ref (a 208), .ref (a 209), .ref (a 210), .ref (a 211), .ref (a 212), .int 4, .int 12, .int (-1), .int 0, .ref q_199, .ref (a 213), .int 0, .int 97, .ref (a 214), .ref (a 215), .ref (a 207), .null, .int 0]))]) hD hS hA [1] rfl
        refine va_calli (va_runV (As := []) (rest := []) ⟨hx, hb, hml, hown, ht⟩ (k_X15_thrown_v6 l D g z0 _ a q_199) (cwV 0 ht (gV w_772 w_774 w_775 w_334 w_773) rfl rfl rfl (by decide +kernel) (le2 rfl rfl)) ⟨PP.blind, va_recv hK.1 hP (ci := 21) (q0 := 1) rfl rfl, PP.mk' hK hZ hz hAz hS hPc hDc⟩ rfl rfl hl.1 rfl (lv_room (Nat.le_of_ble_eq_true rfl)) dL_law_3156 (le2 rfl rfl)) hS (fun q _ h => hFc q h) hFc (fun r u t H locs ht1 hvm hw hB hz1 hk1 hS => ?_)
        obtain ⟨rfl, hw⟩ := hw
        obtain ⟨hP1, hD1⟩ := hB
        rw [ht1] at hP1
        obtain ⟨hP, hD⟩ := va_join (wr := [(o1, .inl (g 1, 1, .inr (.inl (fun _ => 1))))]) (w1 := [((a 200), .inr (21, [.int 0, .ref (a 201), .ref (a 202), .ref (a 203), .ref (a 204), .ref (a 205), .ref (a 206), .int 0, .int 0, .int 0, .int 0, .ref (a 208), .ref (a 209), .ref (a 210), .ref (a 211), .ref (a 212), .int 4, .int 12, .int (-1), .int 0, .ref q_199, .ref (a 213), .int 0, .int 97, .ref (a 214), .ref (a 215), .ref (a 207), .null, .int 0]))]) hP hD [1] [0] rfl rfl (by decide) (by decide) hk1 hFc hP1 hD1
        have hP : va_P D vwCl [(o1, .inl (g 1, 1, .inr (.inl (fun _ => 1)))), ((a 200), .inr (21, [.int 0, .ref (a 201), .ref (a 202), .ref (a 203), .ref (a 204), .ref (a 205), .ref (a 206), .int 0, .int 0, .int 0, .int 0, .ref (a 208), .ref (a 209), .ref (a 210), .ref (a 211), .ref (a 212), .int 4, .int 12, .int (-1), .int 0, .ref q_199, .ref (a 213), .int 0, .int 97, .ref (a 214), .ref (a 215), .ref (a 207), .null, .int 0]))] H := hP
        have hD : va_D (va_A [] s.heap.size) [(o1, .inl (g 1, 1, .inr (.inl (fun _ => 1)))), ((a 200), .inr (21, [.int 0, .ref (a 201), .ref (a 202), .ref (a 203), .ref (a 204), .ref (a 205), .ref (a 206), .int 0, .int 0, .int 0, .int 0, .ref (a 208), .ref (a 209), .ref (a 210), .ref (a 211), .ref (a 212), .int 4, .int 12, .int (-1), .int 0, .ref q_199, .ref (a 213), .int 0, .int 97, .ref (a 214), .ref (a 215), .ref (a 207), .null, .int 0]))] := hD
        refine lv_iload hx hb dL_law_3159 (lv_at hl 1 rfl) ?_
        refine lv_icmp_eq (tgt := 3166) hx hb dL_law_3161 (by decide) (fun c_219 => ?_) (fun c_219 => ?_)
        · refine lv_iload hx hb dL_law_3166 (lv_at hl 1 rfl) ?_
          refine lv_if_ne (tgt := 3183) hx hb dL_law_3168 (by decide) (fun c_220 => ?_) (fun c_220 => ?_)
          · exact absurd c_220 (by decide)
          · refine lv_aload_n hx hb dL_law_3171 rfl (lv_at hl 5 rfl) ?_
            refine lv_iconst (v := 0) hx hb dL_law_3172 (by decide) ?_
            refine va_lald hx hb hK.1 hP 0 1 rfl rfl (by unfold vp_in; decide) dL_law_3173 ?_
            refine r_topl (v := 1) (by decide) ?_
            refine lv_iload hx hb dL_law_3174 (lv_at hl 0 rfl) ?_
            refine lv_i2l (v := 1) hx hb dL_law_3176 (by decide) ?_
            refine W.lcmp hx hb dL_law_3177 ?_
            refine r_topi (v := 0) (by decide) ?_
            refine lv_if_eq (tgt := 3183) hx hb dL_law_3178 (by decide) (fun c_221 => ?_) (fun c_221 => ?_)
            · refine lv_goto (tgt := 4264) hx hb dL_law_3183 (by decide) ?_
              refine W.widen (k := 200 + 300) (n := 8000 + 2000) (Nat.le_of_ble_eq_true rfl) (Nat.le_of_ble_eq_true rfl) ?_
              exact kk _ _ _ hS (lv_sub hl [7, 2] rfl)
            · exact absurd c_221 (by decide)
        · exact absurd c_219 (by decide)
      · obtain ⟨rfl, rfl, hw⟩ := hw
        have c_222 := hw
        exact absurd c_222 c_197
      · obtain ⟨rfl, rfl, hw⟩ := hw
        have c_223 := hw
        exact absurd c_223 c_196
      · obtain ⟨rfl, rfl, hw⟩ := hw
        have c_224 := hw
        exact absurd c_224 c_195
      · obtain ⟨rfl, rfl, hw⟩ := hw
        have c_225 := hw
        exact absurd c_225 c_194
      · obtain ⟨rfl, rfl, hw⟩ := hw
        have c_226 := hw
        exact absurd c_226 c_193
