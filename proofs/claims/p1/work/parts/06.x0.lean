theorem in_X11 : ∀ w ∈ u_ws RX11 TX11 11, w ∈ TG := fun w h => tg (List.mem_append_right _ ((goodIn_r (big := tables_1) _ [568, 570, 572, 574, 576, 578, 580, 582, 584, 586, 588] (by decide +kernel) (by decide +kernel) w h).1)) ((List.all_eq_true.mp (by decide +kernel : (u_ws RX11 TX11 11).all goodWord = true)) w h)
theorem w_0 : Cond.fieldLink RX11 37 "StuckatBench" "words" "LStuckatBench$Words;" ∈ TG := tg (sg_3 _ (List.mem_of_getElem? (i := 80) (by decide +kernel))) (by decide +kernel)
theorem w_1 : Cond.fieldLink RX11 28 "StuckatBench" "rows" "LStuckatBench$Patterns;" ∈ TG := tg (sg_3 _ (List.mem_of_getElem? (i := 79) (by decide +kernel))) (by decide +kernel)
theorem in_X7 : ∀ w ∈ u_ws RX7 TX7 6, w ∈ TG := fun w h => tg (List.mem_append_right _ ((goodIn_r (big := tables_1) _ [270, 272, 274, 276, 278, 280] (by decide +kernel) (by decide +kernel) w h).1)) ((List.all_eq_true.mp (by decide +kernel : (u_ws RX7 TX7 6).all goodWord = true)) w h)
theorem w_2 : Cond.fieldLink RX10 70 "StuckatBench$Patterns" "count" "I" ∈ TG := tg (sg_2 _ (List.mem_of_getElem? (i := 29) (by decide +kernel))) (by decide +kernel)
theorem w_3 : Cond.fieldLink RX10 63 "StuckatBench$Words" "lanes" "J" ∈ TG := tg (sg_2 _ (List.mem_of_getElem? (i := 67) (by decide +kernel))) (by decide +kernel)
theorem in_X10 : ∀ w ∈ u_ws RX10 TX10 17, w ∈ TG := fun w h => tg (List.mem_append_right _ ((goodIn_r (big := tables_1) _ [313, 315, 317, 319, 321, 323, 325, 327, 329, 331, 333, 335, 337, 339, 341, 343, 345] (by decide +kernel) (by decide +kernel) w h).1)) ((List.all_eq_true.mp (by decide +kernel : (u_ws RX10 TX10 17).all goodWord = true)) w h)
theorem w_4 : Cond.fieldLink RX10 9 "StuckatBench$Words" "sourceZero" "[J" ∈ TG := tg (sg_2 _ (List.mem_of_getElem? (i := 52) (by decide +kernel))) (by decide +kernel)
theorem w_5 : Cond.methodLink RX10 67 yJ7_fill_d0a16 ∈ TG := tg (sg_3 _ (List.mem_of_getElem? (i := 168) (by decide +kernel))) (by decide +kernel)
theorem w_6 : Cond.code yJ7_fill_d0a16 cJ7_fill_d0a16 5 none ∈ TG := tg (sg_3 _ (List.mem_of_getElem? (i := 170) (by decide +kernel))) (by decide +kernel)
theorem w_7 : Cond.static yJ7_fill_d0a16 ∈ TG := tg (sg_3 _ (List.mem_of_getElem? (i := 169) (by decide +kernel))) (by decide +kernel)
theorem w_8 : Cond.initialized RJ7 ∈ TG := tg (sg_1 _ (List.mem_of_getElem? (i := 3) (by decide +kernel))) (by decide +kernel)
theorem w_9 : Cond.fieldLink RX10 15 "StuckatBench$Words" "sourceOne" "[J" ∈ TG := tg (sg_2 _ (List.mem_of_getElem? (i := 53) (by decide +kernel))) (by decide +kernel)
theorem w_10 : Cond.methodLink RX10 75 yX10_clearLanes ∈ TG := tg (sg_3 _ (List.mem_of_getElem? (i := 163) (by decide +kernel))) (by decide +kernel)
theorem w_11 : Cond.code yX10_clearLanes cX10_clearLanes 2 none ∈ TG := tg (sg_3 _ (List.mem_of_getElem? (i := 166) (by decide +kernel))) (by decide +kernel)
theorem w_12 : Cond.instanceMethod yX10_clearLanes ∈ TG := tg (sg_3 _ (List.mem_of_getElem? (i := 164) (by decide +kernel))) (by decide +kernel)
theorem w_13 : Cond.selects RX10 yX10_clearLanes yX10_clearLanes ∈ TG := tg (sg_3 _ (List.mem_of_getElem? (i := 165) (by decide +kernel))) (by decide +kernel)
theorem w_14 : Cond.initialized RX10 ∈ TG := tg (sg_1 _ (List.mem_of_getElem? (i := 6) (by decide +kernel))) (by decide +kernel)
theorem w_15 : Cond.methodLink RX11 378 yX10_loadRows ∈ TG := tg (sg_4 _ (List.mem_of_getElem? (i := 24) (by decide +kernel))) (by decide +kernel)
theorem w_16 : Cond.code yX10_loadRows cX10_loadRows 4 none ∈ TG := tg (sg_3 _ (List.mem_of_getElem? (i := 162) (by decide +kernel))) (by decide +kernel)
theorem w_17 : Cond.instanceMethod yX10_loadRows ∈ TG := tg (sg_3 _ (List.mem_of_getElem? (i := 160) (by decide +kernel))) (by decide +kernel)
theorem w_18 : Cond.selects RX10 yX10_loadRows yX10_loadRows ∈ TG := tg (sg_3 _ (List.mem_of_getElem? (i := 161) (by decide +kernel))) (by decide +kernel)
theorem w_19 : Cond.fieldLink RX10 105 "StuckatBench$Words" "touched" "J" ∈ TG := tg (sg_2 _ (List.mem_of_getElem? (i := 70) (by decide +kernel))) (by decide +kernel)
theorem w_20 : Cond.fieldLink RX10 43 "StuckatBench$Words" "net" "LStuckatBench$Net;" ∈ TG := tg (sg_2 _ (List.mem_of_getElem? (i := 50) (by decide +kernel))) (by decide +kernel)
theorem in_X6 : ∀ w ∈ u_ws RX6 TX6 18, w ∈ TG := fun w h => tg (List.mem_append_right _ ((goodIn_r (big := tables_1) _ [129, 131, 133, 135, 137, 139, 141, 143, 145, 147, 149, 151, 153, 155, 157, 159, 161, 163] (by decide +kernel) (by decide +kernel) w h).1)) ((List.all_eq_true.mp (by decide +kernel : (u_ws RX6 TX6 18).all goodWord = true)) w h)
theorem w_21 : Cond.fieldLink RX10 108 "StuckatBench$Net" "lines" "I" ∈ TG := tg (sg_1 _ (List.mem_of_getElem? (i := 113) (by decide +kernel))) (by decide +kernel)
theorem w_22 : Cond.methodLink RX11 381 yX10_runGood ∈ TG := tg (sg_4 _ (List.mem_of_getElem? (i := 25) (by decide +kernel))) (by decide +kernel)
theorem w_23 : Cond.code yX10_runGood cX10_runGood 5 none ∈ TG := tg (sg_3 _ (List.mem_of_getElem? (i := 178) (by decide +kernel))) (by decide +kernel)
theorem w_24 : Cond.instanceMethod yX10_runGood ∈ TG := tg (sg_3 _ (List.mem_of_getElem? (i := 176) (by decide +kernel))) (by decide +kernel)
theorem w_25 : Cond.selects RX10 yX10_runGood yX10_runGood ∈ TG := tg (sg_3 _ (List.mem_of_getElem? (i := 177) (by decide +kernel))) (by decide +kernel)
theorem w_26 : Cond.fieldLink RX11 103 "StuckatBench$Patterns" "count" "I" ∈ TG := tg (sg_2 _ (List.mem_of_getElem? (i := 28) (by decide +kernel))) (by decide +kernel)
theorem w_27 : Cond.methodLink RX11 387 yX11_foldObserved ∈ TG := tg (sg_4 _ (List.mem_of_getElem? (i := 26) (by decide +kernel))) (by decide +kernel)
theorem w_28 : Cond.code yX11_foldObserved cX11_foldObserved 5 (some .int) ∈ TG := tg (sg_4 _ (List.mem_of_getElem? (i := 29) (by decide +kernel))) (by decide +kernel)
theorem w_29 : Cond.instanceMethod yX11_foldObserved ∈ TG := tg (sg_4 _ (List.mem_of_getElem? (i := 28) (by decide +kernel))) (by decide +kernel)
theorem w_30 : Cond.selects RX11 yX11_foldObserved yX11_foldObserved ∈ TG := tg (List.mem_append_left _ (List.mem_map.mpr ⟨(yX11_foldObserved, 11), List.mem_of_getElem? (i := 12) (by decide +kernel), rfl⟩)) (by decide +kernel)
theorem w_31 : Cond.initialized RX11 ∈ TG := tg (sg_1 _ (List.mem_of_getElem? (i := 1) (by decide +kernel))) (by decide +kernel)
theorem w_32 : Cond.fieldLink RX11 21 "StuckatBench" "book" "LStuckatBench$Faults;" ∈ TG := tg (sg_3 _ (List.mem_of_getElem? (i := 78) (by decide +kernel))) (by decide +kernel)
theorem in_X3 : ∀ w ∈ u_ws RX3 TX3 14, w ∈ TG := fun w h => tg (List.mem_append_right _ ((goodIn_r (big := tables_1) _ [219, 221, 223, 225, 227, 229, 231, 233, 235, 237, 239, 241, 243, 245] (by decide +kernel) (by decide +kernel) w h).1)) ((List.all_eq_true.mp (by decide +kernel : (u_ws RX3 TX3 14).all goodWord = true)) w h)
theorem w_33 : Cond.fieldLink RX11 111 "StuckatBench$Faults" "stuck" "I" ∈ TG := tg (sg_1 _ (List.mem_of_getElem? (i := 210) (by decide +kernel))) (by decide +kernel)
theorem w_34 : Cond.fieldLink RX11 106 "StuckatBench$Faults" "count" "I" ∈ TG := tg (sg_1 _ (List.mem_of_getElem? (i := 206) (by decide +kernel))) (by decide +kernel)
theorem w_35 : Cond.classLink RX11 100 "java/lang/IndexOutOfBoundsException" ∈ TG := tg (sg_5 _ (List.mem_of_getElem? (i := 213) (by decide +kernel))) (by decide +kernel)
theorem w_36 : Cond.initialized "java/lang/IndexOutOfBoundsException" ∈ TG := tg (sg_1 _ (List.mem_of_getElem? (i := 30) (by decide +kernel))) (by decide +kernel)
theorem w_37 : Cond.methodLink RX11 107 yX11_needFault ∈ TG := tg (sg_6 _ (List.mem_of_getElem? (i := 108) (by decide +kernel))) (by decide +kernel)
theorem w_38 : Cond.code yX11_needFault cX11_needFault 2 none ∈ TG := tg (sg_6 _ (List.mem_of_getElem? (i := 111) (by decide +kernel))) (by decide +kernel)
theorem w_39 : Cond.instanceMethod yX11_needFault ∈ TG := tg (sg_6 _ (List.mem_of_getElem? (i := 110) (by decide +kernel))) (by decide +kernel)
theorem w_40 : Cond.selects RX11 yX11_needFault yX11_needFault ∈ TG := tg (List.mem_append_left _ (List.mem_map.mpr ⟨(yX11_needFault, 11), List.mem_of_getElem? (i := 49) (by decide +kernel), rfl⟩)) (by decide +kernel)
theorem w_41 : Cond.classLink RX11 114 "java/lang/IllegalArgumentException" ∈ TG := tg (sg_5 _ (List.mem_of_getElem? (i := 194) (by decide +kernel))) (by decide +kernel)
theorem w_42 : Cond.initialized "java/lang/IllegalArgumentException" ∈ TG := tg (sg_1 _ (List.mem_of_getElem? (i := 33) (by decide +kernel))) (by decide +kernel)
theorem w_43 : Cond.methodLink RX11 526 yX11_needCode ∈ TG := tg (sg_8 _ (List.mem_of_getElem? (i := 196) (by decide +kernel))) (by decide +kernel)
theorem w_44 : Cond.code yX11_needCode cX11_needCode 2 none ∈ TG := tg (sg_8 _ (List.mem_of_getElem? (i := 199) (by decide +kernel))) (by decide +kernel)
theorem w_45 : Cond.instanceMethod yX11_needCode ∈ TG := tg (sg_8 _ (List.mem_of_getElem? (i := 198) (by decide +kernel))) (by decide +kernel)
theorem w_46 : Cond.selects RX11 yX11_needCode yX11_needCode ∈ TG := tg (List.mem_append_left _ (List.mem_map.mpr ⟨(yX11_needCode, 11), List.mem_of_getElem? (i := 66) (by decide +kernel), rfl⟩)) (by decide +kernel)
theorem w_47 : Cond.fieldLink RX11 85 "StuckatBench" "wires" "LStuckatBench$Board;" ∈ TG := tg (sg_3 _ (List.mem_of_getElem? (i := 86) (by decide +kernel))) (by decide +kernel)
theorem in_X0 : ∀ w ∈ u_ws RX0 TX0 4, w ∈ TG := fun w h => tg (List.mem_append_right _ ((goodIn_r (big := tables_1) _ [518, 520, 522, 524] (by decide +kernel) (by decide +kernel) w h).1)) ((List.all_eq_true.mp (by decide +kernel : (u_ws RX0 TX0 4).all goodWord = true)) w h)
theorem w_48 : Cond.fieldLink RX11 128 "StuckatBench$Board" "many" "I" ∈ TG := tg (sg_3 _ (List.mem_of_getElem? (i := 36) (by decide +kernel))) (by decide +kernel)
theorem w_49 : Cond.fieldLink RX11 92 "StuckatBench" "cores" "LStuckatBench$Cores;" ∈ TG := tg (sg_3 _ (List.mem_of_getElem? (i := 87) (by decide +kernel))) (by decide +kernel)
theorem in_X2 : ∀ w ∈ u_ws RX2 TX2 7, w ∈ TG := fun w h => tg (List.mem_append_right _ ((goodIn_r (big := tables_1) _ [542, 544, 546, 548, 550, 552, 554] (by decide +kernel) (by decide +kernel) w h).1)) ((List.all_eq_true.mp (by decide +kernel : (u_ws RX2 TX2 7).all goodWord = true)) w h)
theorem w_50 : Cond.fieldLink RX11 535 "StuckatBench$Cores" "count" "I" ∈ TG := tg (sg_3 _ (List.mem_of_getElem? (i := 61) (by decide +kernel))) (by decide +kernel)
theorem w_51 : Cond.methodLink RX11 361 yX11_needRange ∈ TG := tg (sg_7 _ (List.mem_of_getElem? (i := 116) (by decide +kernel))) (by decide +kernel)
theorem w_52 : Cond.code yX11_needRange cX11_needRange 3 none ∈ TG := tg (sg_7 _ (List.mem_of_getElem? (i := 118) (by decide +kernel))) (by decide +kernel)
theorem w_53 : Cond.static yX11_needRange ∈ TG := tg (sg_7 _ (List.mem_of_getElem? (i := 117) (by decide +kernel))) (by decide +kernel)
theorem w_54 : Cond.fieldLink RX0 22 "StuckatBench$Board" "many" "I" ∈ TG := tg (sg_3 _ (List.mem_of_getElem? (i := 35) (by decide +kernel))) (by decide +kernel)
theorem w_55 : Cond.fieldLink RX0 18 "StuckatBench$Board" "kind" "C" ∈ TG := tg (sg_3 _ (List.mem_of_getElem? (i := 37) (by decide +kernel))) (by decide +kernel)
theorem w_56 : Cond.fieldLink RX0 11 "StuckatBench$Board" "stuckAt" "[I" ∈ TG := tg (sg_3 _ (List.mem_of_getElem? (i := 32) (by decide +kernel))) (by decide +kernel)
theorem w_57 : Cond.methodLink RX0 26 yJ7_fill_53178 ∈ TG := tg (sg_8 _ (List.mem_of_getElem? (i := 157) (by decide +kernel))) (by decide +kernel)
theorem w_58 : Cond.code yJ7_fill_53178 cJ7_fill_53178 4 none ∈ TG := tg (sg_1 _ (List.mem_of_getElem? (i := 63) (by decide +kernel))) (by decide +kernel)
theorem w_59 : Cond.static yJ7_fill_53178 ∈ TG := tg (sg_1 _ (List.mem_of_getElem? (i := 62) (by decide +kernel))) (by decide +kernel)
theorem w_60 : Cond.fieldLink RX0 15 "StuckatBench$Board" "joined" "[I" ∈ TG := tg (sg_3 _ (List.mem_of_getElem? (i := 34) (by decide +kernel))) (by decide +kernel)
theorem w_61 : Cond.methodLink RX11 511 yX0_layOut ∈ TG := tg (sg_8 _ (List.mem_of_getElem? (i := 153) (by decide +kernel))) (by decide +kernel)
theorem w_62 : Cond.code yX0_layOut cX0_layOut 4 (some .int) ∈ TG := tg (sg_8 _ (List.mem_of_getElem? (i := 156) (by decide +kernel))) (by decide +kernel)
theorem w_63 : Cond.instanceMethod yX0_layOut ∈ TG := tg (sg_8 _ (List.mem_of_getElem? (i := 154) (by decide +kernel))) (by decide +kernel)
theorem w_64 : Cond.selects RX0 yX0_layOut yX0_layOut ∈ TG := tg (sg_8 _ (List.mem_of_getElem? (i := 155) (by decide +kernel))) (by decide +kernel)
theorem w_65 : Cond.initialized RX0 ∈ TG := tg (sg_1 _ (List.mem_of_getElem? (i := 12) (by decide +kernel))) (by decide +kernel)
theorem w_66 : Cond.fieldLink RX11 10 "StuckatBench" "net" "LStuckatBench$Net;" ∈ TG := tg (sg_3 _ (List.mem_of_getElem? (i := 77) (by decide +kernel))) (by decide +kernel)
theorem w_67 : Cond.fieldLink RX11 453 "StuckatBench$Net" "cells" "I" ∈ TG := tg (sg_1 _ (List.mem_of_getElem? (i := 119) (by decide +kernel))) (by decide +kernel)
theorem w_68 : Cond.fieldLink RX11 121 "StuckatBench$Net" "isClosed" "Z" ∈ TG := tg (sg_1 _ (List.mem_of_getElem? (i := 127) (by decide +kernel))) (by decide +kernel)
theorem w_69 : Cond.classLink RX11 125 "java/lang/UnsupportedOperationException" ∈ TG := tg (sg_5 _ (List.mem_of_getElem? (i := 58) (by decide +kernel))) (by decide +kernel)
theorem w_70 : Cond.initialized "java/lang/UnsupportedOperationException" ∈ TG := tg (sg_1 _ (List.mem_of_getElem? (i := 21) (by decide +kernel))) (by decide +kernel)
theorem w_71 : Cond.methodLink RX11 177 yX11_needClosedNet ∈ TG := tg (sg_6 _ (List.mem_of_getElem? (i := 73) (by decide +kernel))) (by decide +kernel)
theorem w_72 : Cond.code yX11_needClosedNet cX11_needClosedNet 1 none ∈ TG := tg (sg_6 _ (List.mem_of_getElem? (i := 76) (by decide +kernel))) (by decide +kernel)
theorem w_73 : Cond.instanceMethod yX11_needClosedNet ∈ TG := tg (sg_6 _ (List.mem_of_getElem? (i := 75) (by decide +kernel))) (by decide +kernel)
theorem w_74 : Cond.selects RX11 yX11_needClosedNet yX11_needClosedNet ∈ TG := tg (List.mem_append_left _ (List.mem_map.mpr ⟨(yX11_needClosedNet, 11), List.mem_of_getElem? (i := 47) (by decide +kernel), rfl⟩)) (by decide +kernel)
theorem w_75 : Cond.methodLink RX11 319 yX11_needStuck ∈ TG := tg (sg_7 _ (List.mem_of_getElem? (i := 63) (by decide +kernel))) (by decide +kernel)
theorem w_76 : Cond.code yX11_needStuck cX11_needStuck 2 none ∈ TG := tg (sg_7 _ (List.mem_of_getElem? (i := 66) (by decide +kernel))) (by decide +kernel)
theorem w_77 : Cond.instanceMethod yX11_needStuck ∈ TG := tg (sg_7 _ (List.mem_of_getElem? (i := 65) (by decide +kernel))) (by decide +kernel)
theorem w_78 : Cond.selects RX11 yX11_needStuck yX11_needStuck ∈ TG := tg (List.mem_append_left _ (List.mem_map.mpr ⟨(yX11_needStuck, 11), List.mem_of_getElem? (i := 56) (by decide +kernel), rfl⟩)) (by decide +kernel)
theorem w_79 : Cond.fieldLink RX11 96 "StuckatBench$Net" "lines" "I" ∈ TG := tg (sg_1 _ (List.mem_of_getElem? (i := 110) (by decide +kernel))) (by decide +kernel)
theorem w_80 : Cond.methodLink RX11 149 yX11_needLine ∈ TG := tg (sg_5 _ (List.mem_of_getElem? (i := 209) (by decide +kernel))) (by decide +kernel)
theorem w_81 : Cond.code yX11_needLine cX11_needLine 2 none ∈ TG := tg (sg_5 _ (List.mem_of_getElem? (i := 212) (by decide +kernel))) (by decide +kernel)
theorem w_82 : Cond.instanceMethod yX11_needLine ∈ TG := tg (sg_5 _ (List.mem_of_getElem? (i := 211) (by decide +kernel))) (by decide +kernel)
theorem w_83 : Cond.selects RX11 yX11_needLine yX11_needLine ∈ TG := tg (List.mem_append_left _ (List.mem_map.mpr ⟨(yX11_needLine, 11), List.mem_of_getElem? (i := 40) (by decide +kernel), rfl⟩)) (by decide +kernel)
theorem w_84 : Cond.fieldLink RX11 71 "StuckatBench" "chip" "LStuckatBench$Chip;" ∈ TG := tg (sg_3 _ (List.mem_of_getElem? (i := 84) (by decide +kernel))) (by decide +kernel)
theorem in_X1 : ∀ w ∈ u_ws RX1 TX1 13, w ∈ TG := fun w h => tg (List.mem_append_right _ ((goodIn_r (big := tables_1) _ [444, 446, 448, 450, 452, 454, 456, 458, 460, 462, 464, 466, 468] (by decide +kernel) (by decide +kernel) w h).1)) ((List.all_eq_true.mp (by decide +kernel : (u_ws RX1 TX1 13).all goodWord = true)) w h)
theorem w_85 : Cond.fieldLink RX1 47 "StuckatBench$Chip" "words" "LStuckatBench$Words;" ∈ TG := tg (sg_2 _ (List.mem_of_getElem? (i := 188) (by decide +kernel))) (by decide +kernel)
theorem w_86 : Cond.fieldLink RX1 43 "StuckatBench$Chip" "rows" "LStuckatBench$Patterns;" ∈ TG := tg (sg_2 _ (List.mem_of_getElem? (i := 187) (by decide +kernel))) (by decide +kernel)
theorem w_87 : Cond.methodLink RX1 54 yX10_loadRows ∈ TG := tg (sg_4 _ (List.mem_of_getElem? (i := 63) (by decide +kernel))) (by decide +kernel)
theorem w_88 : Cond.methodLink RX1 60 yX10_runGood ∈ TG := tg (sg_4 _ (List.mem_of_getElem? (i := 68) (by decide +kernel))) (by decide +kernel)
theorem w_89 : Cond.fieldLink RX1 11 "StuckatBench$Chip" "putFaults" "[I" ∈ TG := tg (sg_2 _ (List.mem_of_getElem? (i := 189) (by decide +kernel))) (by decide +kernel)
theorem w_90 : Cond.fieldLink RX1 51 "StuckatBench$Chip" "broken" "I" ∈ TG := tg (sg_2 _ (List.mem_of_getElem? (i := 198) (by decide +kernel))) (by decide +kernel)
theorem w_91 : Cond.fieldLink RX10 134 "StuckatBench$Words" "start" "I" ∈ TG := tg (sg_2 _ (List.mem_of_getElem? (i := 71) (by decide +kernel))) (by decide +kernel)
theorem w_92 : Cond.methodLink RX10 140 yX10_spread ∈ TG := tg (sg_3 _ (List.mem_of_getElem? (i := 200) (by decide +kernel))) (by decide +kernel)
theorem w_93 : Cond.code yX10_spread cX10_spread 4 none ∈ TG := tg (sg_3 _ (List.mem_of_getElem? (i := 203) (by decide +kernel))) (by decide +kernel)
theorem w_94 : Cond.instanceMethod yX10_spread ∈ TG := tg (sg_3 _ (List.mem_of_getElem? (i := 202) (by decide +kernel))) (by decide +kernel)
theorem w_95 : Cond.selects RX10 yX10_spread yX10_spread ∈ TG := tg (List.mem_append_left _ (List.mem_map.mpr ⟨(yX10_spread, 17), List.mem_of_getElem? (i := 3) (by decide +kernel), rfl⟩)) (by decide +kernel)
theorem w_96 : Cond.methodLink RX1 63 yX10_runSeveral ∈ TG := tg (sg_5 _ (List.mem_of_getElem? (i := 25) (by decide +kernel))) (by decide +kernel)
theorem w_97 : Cond.code yX10_runSeveral cX10_runSeveral 4 none ∈ TG := tg (sg_5 _ (List.mem_of_getElem? (i := 28) (by decide +kernel))) (by decide +kernel)
theorem w_98 : Cond.instanceMethod yX10_runSeveral ∈ TG := tg (sg_5 _ (List.mem_of_getElem? (i := 26) (by decide +kernel))) (by decide +kernel)
theorem w_99 : Cond.selects RX10 yX10_runSeveral yX10_runSeveral ∈ TG := tg (sg_5 _ (List.mem_of_getElem? (i := 27) (by decide +kernel))) (by decide +kernel)
theorem w_100 : Cond.fieldLink RX1 35 "StuckatBench$Chip" "net" "LStuckatBench$Net;" ∈ TG := tg (sg_2 _ (List.mem_of_getElem? (i := 185) (by decide +kernel))) (by decide +kernel)
theorem w_101 : Cond.fieldLink RX1 67 "StuckatBench$Net" "watched" "I" ∈ TG := tg (sg_1 _ (List.mem_of_getElem? (i := 121) (by decide +kernel))) (by decide +kernel)
theorem w_102 : Cond.methodLink RX1 79 yX1_runChip ∈ TG := tg (sg_5 _ (List.mem_of_getElem? (i := 21) (by decide +kernel))) (by decide +kernel)
theorem w_103 : Cond.code yX1_runChip cX1_runChip 2 none ∈ TG := tg (sg_5 _ (List.mem_of_getElem? (i := 24) (by decide +kernel))) (by decide +kernel)
theorem w_104 : Cond.instanceMethod yX1_runChip ∈ TG := tg (sg_5 _ (List.mem_of_getElem? (i := 23) (by decide +kernel))) (by decide +kernel)
theorem w_105 : Cond.selects RX1 yX1_runChip yX1_runChip ∈ TG := tg (List.mem_append_left _ (List.mem_map.mpr ⟨(yX1_runChip, 13), List.mem_of_getElem? (i := 35) (by decide +kernel), rfl⟩)) (by decide +kernel)
theorem w_106 : Cond.initialized RX1 ∈ TG := tg (sg_1 _ (List.mem_of_getElem? (i := 10) (by decide +kernel))) (by decide +kernel)
theorem w_107 : Cond.fieldLink RX1 39 "StuckatBench$Chip" "book" "LStuckatBench$Faults;" ∈ TG := tg (sg_2 _ (List.mem_of_getElem? (i := 186) (by decide +kernel))) (by decide +kernel)
theorem w_108 : Cond.fieldLink RX1 82 "StuckatBench$Faults" "stuck" "I" ∈ TG := tg (sg_1 _ (List.mem_of_getElem? (i := 211) (by decide +kernel))) (by decide +kernel)
theorem w_109 : Cond.methodLink RX11 438 yX1_compareAll ∈ TG := tg (sg_5 _ (List.mem_of_getElem? (i := 17) (by decide +kernel))) (by decide +kernel)
theorem w_110 : Cond.code yX1_compareAll cX1_compareAll 2 none ∈ TG := tg (sg_5 _ (List.mem_of_getElem? (i := 20) (by decide +kernel))) (by decide +kernel)
theorem w_111 : Cond.instanceMethod yX1_compareAll ∈ TG := tg (sg_5 _ (List.mem_of_getElem? (i := 18) (by decide +kernel))) (by decide +kernel)
theorem w_112 : Cond.selects RX1 yX1_compareAll yX1_compareAll ∈ TG := tg (sg_5 _ (List.mem_of_getElem? (i := 19) (by decide +kernel))) (by decide +kernel)
theorem w_113 : Cond.methodLink RX11 441 yX1_candidateAt ∈ TG := tg (sg_7 _ (List.mem_of_getElem? (i := 230) (by decide +kernel))) (by decide +kernel)
theorem w_114 : Cond.code yX1_candidateAt cX1_candidateAt 3 (some .int) ∈ TG := tg (sg_7 _ (List.mem_of_getElem? (i := 233) (by decide +kernel))) (by decide +kernel)
theorem w_115 : Cond.instanceMethod yX1_candidateAt ∈ TG := tg (sg_7 _ (List.mem_of_getElem? (i := 231) (by decide +kernel))) (by decide +kernel)
theorem w_116 : Cond.selects RX1 yX1_candidateAt yX1_candidateAt ∈ TG := tg (sg_7 _ (List.mem_of_getElem? (i := 232) (by decide +kernel))) (by decide +kernel)
theorem w_117 : Cond.classLink RX11 310 "java/util/NoSuchElementException" ∈ TG := tg (sg_7 _ (List.mem_of_getElem? (i := 21) (by decide +kernel))) (by decide +kernel)
theorem w_118 : Cond.initialized "java/util/NoSuchElementException" ∈ TG := tg (sg_1 _ (List.mem_of_getElem? (i := 40) (by decide +kernel))) (by decide +kernel)
theorem w_119 : Cond.methodLink RX11 135 yX11_needOpenNet ∈ TG := tg (sg_5 _ (List.mem_of_getElem? (i := 54) (by decide +kernel))) (by decide +kernel)
theorem w_120 : Cond.code yX11_needOpenNet cX11_needOpenNet 1 none ∈ TG := tg (sg_5 _ (List.mem_of_getElem? (i := 57) (by decide +kernel))) (by decide +kernel)
theorem w_121 : Cond.instanceMethod yX11_needOpenNet ∈ TG := tg (sg_5 _ (List.mem_of_getElem? (i := 56) (by decide +kernel))) (by decide +kernel)
theorem w_122 : Cond.selects RX11 yX11_needOpenNet yX11_needOpenNet ∈ TG := tg (List.mem_append_left _ (List.mem_map.mpr ⟨(yX11_needOpenNet, 11), List.mem_of_getElem? (i := 38) (by decide +kernel), rfl⟩)) (by decide +kernel)
theorem w_123 : Cond.fieldLink RX11 138 "StuckatBench$Net" "sources" "I" ∈ TG := tg (sg_1 _ (List.mem_of_getElem? (i := 116) (by decide +kernel))) (by decide +kernel)
theorem w_124 : Cond.fieldLink RX6 68 "StuckatBench$Net" "lines" "I" ∈ TG := tg (sg_1 _ (List.mem_of_getElem? (i := 112) (by decide +kernel))) (by decide +kernel)
theorem w_125 : Cond.fieldLink RX6 9 "StuckatBench$Net" "kind" "[C" ∈ TG := tg (sg_1 _ (List.mem_of_getElem? (i := 64) (by decide +kernel))) (by decide +kernel)
theorem w_126 : Cond.fieldLink RX6 34 "StuckatBench$Net" "reach" "[J" ∈ TG := tg (sg_1 _ (List.mem_of_getElem? (i := 94) (by decide +kernel))) (by decide +kernel)
theorem w_127 : Cond.fieldLink RX6 31 "StuckatBench$Net" "sourceOf" "[I" ∈ TG := tg (sg_1 _ (List.mem_of_getElem? (i := 89) (by decide +kernel))) (by decide +kernel)
theorem w_128 : Cond.fieldLink RX6 72 "StuckatBench$Net" "sources" "I" ∈ TG := tg (sg_1 _ (List.mem_of_getElem? (i := 115) (by decide +kernel))) (by decide +kernel)
theorem w_129 : Cond.fieldLink RX6 38 "StuckatBench$Net" "cellLine" "[I" ∈ TG := tg (sg_1 _ (List.mem_of_getElem? (i := 95) (by decide +kernel))) (by decide +kernel)
theorem w_130 : Cond.fieldLink RX6 75 "StuckatBench$Net" "cells" "I" ∈ TG := tg (sg_1 _ (List.mem_of_getElem? (i := 117) (by decide +kernel))) (by decide +kernel)
theorem w_131 : Cond.methodLink RX11 144 yX6_addSource ∈ TG := tg (sg_5 _ (List.mem_of_getElem? (i := 141) (by decide +kernel))) (by decide +kernel)
theorem w_132 : Cond.code yX6_addSource cX6_addSource 3 (some .int) ∈ TG := tg (sg_5 _ (List.mem_of_getElem? (i := 144) (by decide +kernel))) (by decide +kernel)
theorem w_133 : Cond.instanceMethod yX6_addSource ∈ TG := tg (sg_5 _ (List.mem_of_getElem? (i := 142) (by decide +kernel))) (by decide +kernel)
theorem w_134 : Cond.selects RX6 yX6_addSource yX6_addSource ∈ TG := tg (sg_5 _ (List.mem_of_getElem? (i := 143) (by decide +kernel))) (by decide +kernel)
theorem w_135 : Cond.initialized RX6 ∈ TG := tg (sg_1 _ (List.mem_of_getElem? (i := 2) (by decide +kernel))) (by decide +kernel)
theorem w_136 : Cond.methodLink RX11 131 yX11_addSource ∈ TG := tg (sg_5 _ (List.mem_of_getElem? (i := 50) (by decide +kernel))) (by decide +kernel)
theorem w_137 : Cond.code yX11_addSource cX11_addSource 2 (some .int) ∈ TG := tg (sg_5 _ (List.mem_of_getElem? (i := 53) (by decide +kernel))) (by decide +kernel)
theorem w_138 : Cond.instanceMethod yX11_addSource ∈ TG := tg (sg_5 _ (List.mem_of_getElem? (i := 52) (by decide +kernel))) (by decide +kernel)
theorem w_139 : Cond.selects RX11 yX11_addSource yX11_addSource ∈ TG := tg (List.mem_append_left _ (List.mem_map.mpr ⟨(yX11_addSource, 11), List.mem_of_getElem? (i := 37) (by decide +kernel), rfl⟩)) (by decide +kernel)
theorem w_140 : Cond.constant RX11 399 65535 ∈ TG := tg (sg_7 _ (List.mem_of_getElem? (i := 163) (by decide +kernel))) (by decide +kernel)
theorem w_141 : Cond.fieldLink RX3 73 "StuckatBench$Faults" "stuck" "I" ∈ TG := tg (sg_1 _ (List.mem_of_getElem? (i := 208) (by decide +kernel))) (by decide +kernel)
theorem w_142 : Cond.methodLink RX11 225 yX3_countClasses ∈ TG := tg (sg_3 _ (List.mem_of_getElem? (i := 119) (by decide +kernel))) (by decide +kernel)
theorem w_143 : Cond.code yX3_countClasses cX3_countClasses 3 (some .int) ∈ TG := tg (sg_3 _ (List.mem_of_getElem? (i := 122) (by decide +kernel))) (by decide +kernel)
theorem w_144 : Cond.instanceMethod yX3_countClasses ∈ TG := tg (sg_3 _ (List.mem_of_getElem? (i := 120) (by decide +kernel))) (by decide +kernel)
theorem w_145 : Cond.selects RX3 yX3_countClasses yX3_countClasses ∈ TG := tg (sg_3 _ (List.mem_of_getElem? (i := 121) (by decide +kernel))) (by decide +kernel)
theorem w_146 : Cond.initialized RX3 ∈ TG := tg (sg_1 _ (List.mem_of_getElem? (i := 4) (by decide +kernel))) (by decide +kernel)
theorem w_147 : Cond.methodLink RX11 167 yX6_canClose ∈ TG := tg (sg_6 _ (List.mem_of_getElem? (i := 13) (by decide +kernel))) (by decide +kernel)
theorem w_148 : Cond.code yX6_canClose cX6_canClose 3 (some .boolean) ∈ TG := tg (sg_6 _ (List.mem_of_getElem? (i := 16) (by decide +kernel))) (by decide +kernel)
theorem w_149 : Cond.instanceMethod yX6_canClose ∈ TG := tg (sg_6 _ (List.mem_of_getElem? (i := 14) (by decide +kernel))) (by decide +kernel)
theorem w_150 : Cond.selects RX6 yX6_canClose yX6_canClose ∈ TG := tg (sg_6 _ (List.mem_of_getElem? (i := 15) (by decide +kernel))) (by decide +kernel)
theorem w_151 : Cond.fieldLink RX2 11 "StuckatBench$Cores" "time" "[I" ∈ TG := tg (sg_3 _ (List.mem_of_getElem? (i := 53) (by decide +kernel))) (by decide +kernel)
theorem w_152 : Cond.fieldLink RX2 30 "StuckatBench$Cores" "count" "I" ∈ TG := tg (sg_3 _ (List.mem_of_getElem? (i := 60) (by decide +kernel))) (by decide +kernel)
theorem w_153 : Cond.fieldLink RX2 15 "StuckatBench$Cores" "width" "[I" ∈ TG := tg (sg_3 _ (List.mem_of_getElem? (i := 54) (by decide +kernel))) (by decide +kernel)
theorem w_154 : Cond.fieldLink RX2 18 "StuckatBench$Cores" "power" "[I" ∈ TG := tg (sg_3 _ (List.mem_of_getElem? (i := 55) (by decide +kernel))) (by decide +kernel)
theorem w_155 : Cond.methodLink RX11 536 yX2_add ∈ TG := tg (sg_9 _ (List.mem_of_getElem? (i := 6) (by decide +kernel))) (by decide +kernel)
theorem w_156 : Cond.code yX2_add cX2_add 4 (some .int) ∈ TG := tg (sg_9 _ (List.mem_of_getElem? (i := 9) (by decide +kernel))) (by decide +kernel)
theorem w_157 : Cond.instanceMethod yX2_add ∈ TG := tg (sg_9 _ (List.mem_of_getElem? (i := 7) (by decide +kernel))) (by decide +kernel)
theorem w_158 : Cond.selects RX2 yX2_add yX2_add ∈ TG := tg (sg_9 _ (List.mem_of_getElem? (i := 8) (by decide +kernel))) (by decide +kernel)
theorem w_159 : Cond.initialized RX2 ∈ TG := tg (sg_1 _ (List.mem_of_getElem? (i := 13) (by decide +kernel))) (by decide +kernel)
theorem dJ7_fill_49daa_0 : decode cJ7_fill_49daa 0 = .ok (.iconst 0, 1) := by decide +kernel
theorem dJ7_fill_49daa_1 : decode cJ7_fill_49daa 1 = .ok (.istore_n 2, 1) := by decide +kernel
theorem dJ7_fill_49daa_2 : decode cJ7_fill_49daa 2 = .ok (.aload_n 0, 1) := by decide +kernel
theorem dJ7_fill_49daa_3 : decode cJ7_fill_49daa 3 = .ok (.arraylength, 1) := by decide +kernel
theorem dJ7_fill_49daa_4 : decode cJ7_fill_49daa 4 = .ok (.istore_n 3, 1) := by decide +kernel
theorem dJ7_fill_49daa_5 : decode cJ7_fill_49daa 5 = .ok (.iload_n 2, 1) := by decide +kernel
theorem dJ7_fill_49daa_6 : decode cJ7_fill_49daa 6 = .ok (.iload_n 3, 1) := by decide +kernel
theorem dJ7_fill_49daa_7 : decode cJ7_fill_49daa 7 = .ok (.if_icmp .ge 13, 3) := by decide +kernel
theorem dJ7_fill_49daa_10 : decode cJ7_fill_49daa 10 = .ok (.aload_n 0, 1) := by decide +kernel
theorem dJ7_fill_49daa_11 : decode cJ7_fill_49daa 11 = .ok (.iload_n 2, 1) := by decide +kernel
theorem dJ7_fill_49daa_12 : decode cJ7_fill_49daa 12 = .ok (.iload_n 1, 1) := by decide +kernel
theorem dJ7_fill_49daa_13 : decode cJ7_fill_49daa 13 = .ok (.bastore, 1) := by decide +kernel
theorem dJ7_fill_49daa_14 : decode cJ7_fill_49daa 14 = .ok (.iinc 2 1, 3) := by decide +kernel
theorem dJ7_fill_49daa_17 : decode cJ7_fill_49daa 17 = .ok (.goto (-12), 3) := by decide +kernel
theorem dJ7_fill_49daa_20 : decode cJ7_fill_49daa 20 = .ok (.return_, 1) := by decide +kernel
theorem dJ7_fill_53178_0 : decode cJ7_fill_53178 0 = .ok (.iconst 0, 1) := by decide +kernel
theorem dJ7_fill_53178_1 : decode cJ7_fill_53178 1 = .ok (.istore_n 2, 1) := by decide +kernel
theorem dJ7_fill_53178_2 : decode cJ7_fill_53178 2 = .ok (.aload_n 0, 1) := by decide +kernel
theorem dJ7_fill_53178_3 : decode cJ7_fill_53178 3 = .ok (.arraylength, 1) := by decide +kernel
theorem dJ7_fill_53178_4 : decode cJ7_fill_53178 4 = .ok (.istore_n 3, 1) := by decide +kernel
theorem dJ7_fill_53178_5 : decode cJ7_fill_53178 5 = .ok (.iload_n 2, 1) := by decide +kernel
theorem dJ7_fill_53178_6 : decode cJ7_fill_53178 6 = .ok (.iload_n 3, 1) := by decide +kernel
theorem dJ7_fill_53178_7 : decode cJ7_fill_53178 7 = .ok (.if_icmp .ge 13, 3) := by decide +kernel
theorem dJ7_fill_53178_10 : decode cJ7_fill_53178 10 = .ok (.aload_n 0, 1) := by decide +kernel
theorem dJ7_fill_53178_11 : decode cJ7_fill_53178 11 = .ok (.iload_n 2, 1) := by decide +kernel
theorem dJ7_fill_53178_12 : decode cJ7_fill_53178 12 = .ok (.iload_n 1, 1) := by decide +kernel
theorem dJ7_fill_53178_13 : decode cJ7_fill_53178 13 = .ok (.iastore, 1) := by decide +kernel
theorem dJ7_fill_53178_14 : decode cJ7_fill_53178 14 = .ok (.iinc 2 1, 3) := by decide +kernel
theorem dJ7_fill_53178_17 : decode cJ7_fill_53178 17 = .ok (.goto (-12), 3) := by decide +kernel
theorem dJ7_fill_53178_20 : decode cJ7_fill_53178 20 = .ok (.return_, 1) := by decide +kernel
theorem dJ7_fill_d0a16_0 : decode cJ7_fill_d0a16 0 = .ok (.iconst 0, 1) := by decide +kernel
theorem dJ7_fill_d0a16_1 : decode cJ7_fill_d0a16 1 = .ok (.istore_n 3, 1) := by decide +kernel
theorem dJ7_fill_d0a16_2 : decode cJ7_fill_d0a16 2 = .ok (.aload_n 0, 1) := by decide +kernel
theorem dJ7_fill_d0a16_3 : decode cJ7_fill_d0a16 3 = .ok (.arraylength, 1) := by decide +kernel
theorem dJ7_fill_d0a16_4 : decode cJ7_fill_d0a16 4 = .ok (.istore 4, 2) := by decide +kernel
theorem dJ7_fill_d0a16_6 : decode cJ7_fill_d0a16 6 = .ok (.iload_n 3, 1) := by decide +kernel
theorem dJ7_fill_d0a16_7 : decode cJ7_fill_d0a16 7 = .ok (.iload 4, 2) := by decide +kernel
theorem dJ7_fill_d0a16_9 : decode cJ7_fill_d0a16 9 = .ok (.if_icmp .ge 13, 3) := by decide +kernel
theorem dJ7_fill_d0a16_12 : decode cJ7_fill_d0a16 12 = .ok (.aload_n 0, 1) := by decide +kernel
theorem dJ7_fill_d0a16_13 : decode cJ7_fill_d0a16 13 = .ok (.iload_n 3, 1) := by decide +kernel
theorem dJ7_fill_d0a16_14 : decode cJ7_fill_d0a16 14 = .ok (.lload_n 1, 1) := by decide +kernel
theorem dJ7_fill_d0a16_15 : decode cJ7_fill_d0a16 15 = .ok (.lastore, 1) := by decide +kernel
theorem dJ7_fill_d0a16_16 : decode cJ7_fill_d0a16 16 = .ok (.iinc 3 1, 3) := by decide +kernel
theorem dJ7_fill_d0a16_19 : decode cJ7_fill_d0a16 19 = .ok (.goto (-13), 3) := by decide +kernel
theorem dJ7_fill_d0a16_22 : decode cJ7_fill_d0a16 22 = .ok (.return_, 1) := by decide +kernel
theorem dX0_layOut_0 : decode cX0_layOut 0 = .ok (.aload_n 0, 1) := by decide +kernel
theorem dX0_layOut_1 : decode cX0_layOut 1 = .ok (.getfield 22, 3) := by decide +kernel
theorem dX0_layOut_4 : decode cX0_layOut 4 = .ok (.istore_n 3, 1) := by decide +kernel
theorem dX0_layOut_5 : decode cX0_layOut 5 = .ok (.aload_n 0, 1) := by decide +kernel
theorem dX0_layOut_6 : decode cX0_layOut 6 = .ok (.iload_n 1, 1) := by decide +kernel
theorem dX0_layOut_7 : decode cX0_layOut 7 = .ok (.putfield 22, 3) := by decide +kernel
theorem dX0_layOut_10 : decode cX0_layOut 10 = .ok (.aload_n 0, 1) := by decide +kernel
theorem dX0_layOut_11 : decode cX0_layOut 11 = .ok (.iload_n 2, 1) := by decide +kernel
theorem dX0_layOut_12 : decode cX0_layOut 12 = .ok (.putfield 18, 3) := by decide +kernel
theorem dX0_layOut_15 : decode cX0_layOut 15 = .ok (.aload_n 0, 1) := by decide +kernel
theorem dX0_layOut_16 : decode cX0_layOut 16 = .ok (.getfield 11, 3) := by decide +kernel
theorem dX0_layOut_19 : decode cX0_layOut 19 = .ok (.iconst 2, 1) := by decide +kernel
theorem dX0_layOut_20 : decode cX0_layOut 20 = .ok (.invokestatic 26, 3) := by decide +kernel
theorem dX0_layOut_23 : decode cX0_layOut 23 = .ok (.aload_n 0, 1) := by decide +kernel
theorem dX0_layOut_24 : decode cX0_layOut 24 = .ok (.getfield 15, 3) := by decide +kernel
theorem dX0_layOut_27 : decode cX0_layOut 27 = .ok (.iconst 0, 1) := by decide +kernel
theorem dX0_layOut_28 : decode cX0_layOut 28 = .ok (.invokestatic 26, 3) := by decide +kernel
theorem dX0_layOut_31 : decode cX0_layOut 31 = .ok (.iload_n 3, 1) := by decide +kernel
theorem dX0_layOut_32 : decode cX0_layOut 32 = .ok (.ireturn, 1) := by decide +kernel
theorem dX10_clearLanes_0 : decode cX10_clearLanes 0 = .ok (.aload_n 0, 1) := by decide +kernel
theorem dX10_clearLanes_1 : decode cX10_clearLanes 1 = .ok (.iload_n 1, 1) := by decide +kernel
theorem dX10_clearLanes_2 : decode cX10_clearLanes 2 = .ok (.bipush 64, 2) := by decide +kernel
theorem dX10_clearLanes_4 : decode cX10_clearLanes 4 = .ok (.if_icmp .lt 9, 3) := by decide +kernel
theorem dX10_clearLanes_7 : decode cX10_clearLanes 7 = .ok (.ldc2_w 61, 3) := by decide +kernel
theorem dX10_clearLanes_10 : decode cX10_clearLanes 10 = .ok (.goto 8, 3) := by decide +kernel
theorem dX10_clearLanes_13 : decode cX10_clearLanes 13 = .ok (.lconst 1, 1) := by decide +kernel
theorem dX10_clearLanes_14 : decode cX10_clearLanes 14 = .ok (.iload_n 1, 1) := by decide +kernel
theorem dX10_clearLanes_15 : decode cX10_clearLanes 15 = .ok (.lshl, 1) := by decide +kernel
theorem dX10_clearLanes_16 : decode cX10_clearLanes 16 = .ok (.lconst 1, 1) := by decide +kernel
theorem dX10_clearLanes_17 : decode cX10_clearLanes 17 = .ok (.lsub, 1) := by decide +kernel
theorem dX10_clearLanes_18 : decode cX10_clearLanes 18 = .ok (.putfield 63, 3) := by decide +kernel
theorem dX10_clearLanes_21 : decode cX10_clearLanes 21 = .ok (.aload_n 0, 1) := by decide +kernel
theorem dX10_clearLanes_22 : decode cX10_clearLanes 22 = .ok (.getfield 9, 3) := by decide +kernel
theorem dX10_clearLanes_25 : decode cX10_clearLanes 25 = .ok (.lconst 0, 1) := by decide +kernel
theorem dX10_clearLanes_26 : decode cX10_clearLanes 26 = .ok (.invokestatic 67, 3) := by decide +kernel
theorem dX10_clearLanes_29 : decode cX10_clearLanes 29 = .ok (.aload_n 0, 1) := by decide +kernel
theorem dX10_clearLanes_30 : decode cX10_clearLanes 30 = .ok (.getfield 15, 3) := by decide +kernel
theorem dX10_clearLanes_33 : decode cX10_clearLanes 33 = .ok (.lconst 0, 1) := by decide +kernel
theorem dX10_clearLanes_34 : decode cX10_clearLanes 34 = .ok (.invokestatic 67, 3) := by decide +kernel
theorem dX10_clearLanes_37 : decode cX10_clearLanes 37 = .ok (.return_, 1) := by decide +kernel
theorem dX10_loadRows_0 : decode cX10_loadRows 0 = .ok (.aload_n 0, 1) := by decide +kernel
theorem dX10_loadRows_1 : decode cX10_loadRows 1 = .ok (.aload_n 1, 1) := by decide +kernel
theorem dX10_loadRows_2 : decode cX10_loadRows 2 = .ok (.getfield 70, 3) := by decide +kernel
theorem dX10_loadRows_5 : decode cX10_loadRows 5 = .ok (.invokevirtual 75, 3) := by decide +kernel
theorem dX10_loadRows_8 : decode cX10_loadRows 8 = .ok (.iconst 0, 1) := by decide +kernel
theorem dX10_loadRows_9 : decode cX10_loadRows 9 = .ok (.istore_n 2, 1) := by decide +kernel
theorem dX10_loadRows_10 : decode cX10_loadRows 10 = .ok (.iload_n 2, 1) := by decide +kernel
theorem dX10_loadRows_11 : decode cX10_loadRows 11 = .ok (.aload_n 1, 1) := by decide +kernel
theorem dX10_loadRows_12 : decode cX10_loadRows 12 = .ok (.getfield 70, 3) := by decide +kernel
theorem dX10_loadRows_15 : decode cX10_loadRows 15 = .ok (.if_icmp .ge 57, 3) := by decide +kernel
theorem dX10_loadRows_18 : decode cX10_loadRows 18 = .ok (.iconst 0, 1) := by decide +kernel
theorem dX10_loadRows_19 : decode cX10_loadRows 19 = .ok (.istore_n 3, 1) := by decide +kernel
theorem dX10_loadRows_20 : decode cX10_loadRows 20 = .ok (.iload_n 3, 1) := by decide +kernel
theorem dX10_loadRows_21 : decode cX10_loadRows 21 = .ok (.aload_n 0, 1) := by decide +kernel
theorem dX10_loadRows_22 : decode cX10_loadRows 22 = .ok (.getfield 43, 3) := by decide +kernel
theorem dX10_loadRows_25 : decode cX10_loadRows 25 = .ok (.getfield 79, 3) := by decide +kernel
theorem dX10_loadRows_28 : decode cX10_loadRows 28 = .ok (.if_icmp .ge 38, 3) := by decide +kernel
theorem dX10_loadRows_31 : decode cX10_loadRows 31 = .ok (.aload_n 1, 1) := by decide +kernel
theorem dX10_loadRows_32 : decode cX10_loadRows 32 = .ok (.getfield 84, 3) := by decide +kernel
theorem dX10_loadRows_35 : decode cX10_loadRows 35 = .ok (.iload_n 2, 1) := by decide +kernel
theorem dX10_loadRows_36 : decode cX10_loadRows 36 = .ok (.iaload, 1) := by decide +kernel
theorem dX10_loadRows_37 : decode cX10_loadRows 37 = .ok (.iload_n 3, 1) := by decide +kernel
theorem dX10_loadRows_38 : decode cX10_loadRows 38 = .ok (.ishr, 1) := by decide +kernel
theorem dX10_loadRows_39 : decode cX10_loadRows 39 = .ok (.iconst 1, 1) := by decide +kernel
theorem dX10_loadRows_40 : decode cX10_loadRows 40 = .ok (.iand, 1) := by decide +kernel
theorem dX10_loadRows_41 : decode cX10_loadRows 41 = .ok (.ifCond .eq 19, 3) := by decide +kernel
theorem dX10_loadRows_44 : decode cX10_loadRows 44 = .ok (.aload_n 0, 1) := by decide +kernel
theorem dX10_loadRows_45 : decode cX10_loadRows 45 = .ok (.iload_n 2, 1) := by decide +kernel
theorem dX10_loadRows_46 : decode cX10_loadRows 46 = .ok (.iload_n 3, 1) := by decide +kernel
theorem dX10_loadRows_47 : decode cX10_loadRows 47 = .ok (.aload_n 1, 1) := by decide +kernel
theorem dX10_loadRows_48 : decode cX10_loadRows 48 = .ok (.getfield 87, 3) := by decide +kernel
theorem dX10_loadRows_51 : decode cX10_loadRows 51 = .ok (.iload_n 2, 1) := by decide +kernel
theorem dX10_loadRows_52 : decode cX10_loadRows 52 = .ok (.iaload, 1) := by decide +kernel
theorem dX10_loadRows_53 : decode cX10_loadRows 53 = .ok (.iload_n 3, 1) := by decide +kernel
theorem dX10_loadRows_54 : decode cX10_loadRows 54 = .ok (.ishr, 1) := by decide +kernel
theorem dX10_loadRows_55 : decode cX10_loadRows 55 = .ok (.iconst 1, 1) := by decide +kernel
theorem dX10_loadRows_56 : decode cX10_loadRows 56 = .ok (.iand, 1) := by decide +kernel
theorem dX10_loadRows_57 : decode cX10_loadRows 57 = .ok (.invokevirtual 90, 3) := by decide +kernel
theorem dX10_loadRows_60 : decode cX10_loadRows 60 = .ok (.iinc 3 1, 3) := by decide +kernel
theorem dX10_loadRows_63 : decode cX10_loadRows 63 = .ok (.goto (-43), 3) := by decide +kernel
theorem dX10_loadRows_66 : decode cX10_loadRows 66 = .ok (.iinc 2 1, 3) := by decide +kernel
theorem dX10_loadRows_69 : decode cX10_loadRows 69 = .ok (.goto (-59), 3) := by decide +kernel
theorem dX10_loadRows_72 : decode cX10_loadRows 72 = .ok (.return_, 1) := by decide +kernel
theorem dX10_runGood_0 : decode cX10_runGood 0 = .ok (.aload_n 0, 1) := by decide +kernel
theorem dX10_runGood_1 : decode cX10_runGood 1 = .ok (.lconst 0, 1) := by decide +kernel
theorem dX10_runGood_2 : decode cX10_runGood 2 = .ok (.putfield 105, 3) := by decide +kernel
theorem dX10_runGood_5 : decode cX10_runGood 5 = .ok (.iconst 0, 1) := by decide +kernel
theorem dX10_runGood_6 : decode cX10_runGood 6 = .ok (.istore_n 1, 1) := by decide +kernel
theorem dX10_runGood_7 : decode cX10_runGood 7 = .ok (.iload_n 1, 1) := by decide +kernel
theorem dX10_runGood_8 : decode cX10_runGood 8 = .ok (.aload_n 0, 1) := by decide +kernel
theorem dX10_runGood_9 : decode cX10_runGood 9 = .ok (.getfield 43, 3) := by decide +kernel
theorem dX10_runGood_12 : decode cX10_runGood 12 = .ok (.getfield 108, 3) := by decide +kernel
theorem dX10_runGood_15 : decode cX10_runGood 15 = .ok (.if_icmp .ge 225, 3) := by decide +kernel
theorem dX10_runGood_18 : decode cX10_runGood 18 = .ok (.aload_n 0, 1) := by decide +kernel
theorem dX10_runGood_19 : decode cX10_runGood 19 = .ok (.getfield 43, 3) := by decide +kernel
theorem dX10_runGood_22 : decode cX10_runGood 22 = .ok (.getfield 111, 3) := by decide +kernel
theorem dX10_runGood_25 : decode cX10_runGood 25 = .ok (.iload_n 1, 1) := by decide +kernel
theorem dX10_runGood_26 : decode cX10_runGood 26 = .ok (.iaload, 1) := by decide +kernel
theorem dX10_runGood_27 : decode cX10_runGood 27 = .ok (.istore_n 2, 1) := by decide +kernel
theorem dX10_runGood_28 : decode cX10_runGood 28 = .ok (.aload_n 0, 1) := by decide +kernel
theorem dX10_runGood_29 : decode cX10_runGood 29 = .ok (.getfield 43, 3) := by decide +kernel
theorem dX10_runGood_32 : decode cX10_runGood 32 = .ok (.getfield 114, 3) := by decide +kernel
theorem dX10_runGood_35 : decode cX10_runGood 35 = .ok (.iload_n 1, 1) := by decide +kernel
theorem dX10_runGood_36 : decode cX10_runGood 36 = .ok (.iaload, 1) := by decide +kernel
theorem dX10_runGood_37 : decode cX10_runGood 37 = .ok (.iconst 2, 1) := by decide +kernel
theorem dX10_runGood_38 : decode cX10_runGood 38 = .ok (.if_icmp .eq 56, 3) := by decide +kernel
theorem dX10_runGood_41 : decode cX10_runGood 41 = .ok (.aload_n 0, 1) := by decide +kernel
theorem dX10_runGood_42 : decode cX10_runGood 42 = .ok (.getfield 18, 3) := by decide +kernel
theorem dX10_runGood_45 : decode cX10_runGood 45 = .ok (.iload_n 1, 1) := by decide +kernel
theorem dX10_runGood_46 : decode cX10_runGood 46 = .ok (.aload_n 0, 1) := by decide +kernel
theorem dX10_runGood_47 : decode cX10_runGood 47 = .ok (.getfield 43, 3) := by decide +kernel
theorem dX10_runGood_50 : decode cX10_runGood 50 = .ok (.getfield 114, 3) := by decide +kernel
theorem dX10_runGood_53 : decode cX10_runGood 53 = .ok (.iload_n 1, 1) := by decide +kernel
theorem dX10_runGood_54 : decode cX10_runGood 54 = .ok (.iaload, 1) := by decide +kernel
theorem dX10_runGood_55 : decode cX10_runGood 55 = .ok (.ifCond .ne 9, 3) := by decide +kernel
theorem dX10_runGood_58 : decode cX10_runGood 58 = .ok (.ldc2_w 61, 3) := by decide +kernel
theorem dX10_runGood_61 : decode cX10_runGood 61 = .ok (.goto 4, 3) := by decide +kernel
theorem dX10_runGood_64 : decode cX10_runGood 64 = .ok (.lconst 0, 1) := by decide +kernel
theorem dX10_runGood_65 : decode cX10_runGood 65 = .ok (.lastore, 1) := by decide +kernel
theorem dX10_runGood_66 : decode cX10_runGood 66 = .ok (.aload_n 0, 1) := by decide +kernel
theorem dX10_runGood_67 : decode cX10_runGood 67 = .ok (.getfield 21, 3) := by decide +kernel
theorem dX10_runGood_70 : decode cX10_runGood 70 = .ok (.iload_n 1, 1) := by decide +kernel
theorem dX10_runGood_71 : decode cX10_runGood 71 = .ok (.aload_n 0, 1) := by decide +kernel
theorem dX10_runGood_72 : decode cX10_runGood 72 = .ok (.getfield 43, 3) := by decide +kernel
theorem dX10_runGood_75 : decode cX10_runGood 75 = .ok (.getfield 114, 3) := by decide +kernel
theorem dX10_runGood_78 : decode cX10_runGood 78 = .ok (.iload_n 1, 1) := by decide +kernel
theorem dX10_runGood_79 : decode cX10_runGood 79 = .ok (.iaload, 1) := by decide +kernel
theorem dX10_runGood_80 : decode cX10_runGood 80 = .ok (.ifCond .ne 7, 3) := by decide +kernel
theorem dX10_runGood_83 : decode cX10_runGood 83 = .ok (.lconst 0, 1) := by decide +kernel
theorem dX10_runGood_84 : decode cX10_runGood 84 = .ok (.goto 6, 3) := by decide +kernel
theorem dX10_runGood_87 : decode cX10_runGood 87 = .ok (.ldc2_w 61, 3) := by decide +kernel
theorem dX10_runGood_90 : decode cX10_runGood 90 = .ok (.lastore, 1) := by decide +kernel
theorem dX10_runGood_91 : decode cX10_runGood 91 = .ok (.goto 143, 3) := by decide +kernel
theorem dX10_runGood_94 : decode cX10_runGood 94 = .ok (.iload_n 2, 1) := by decide +kernel
theorem dX10_runGood_95 : decode cX10_runGood 95 = .ok (.ifCond .lt 30, 3) := by decide +kernel
theorem dX10_runGood_98 : decode cX10_runGood 98 = .ok (.aload_n 0, 1) := by decide +kernel
theorem dX10_runGood_99 : decode cX10_runGood 99 = .ok (.getfield 18, 3) := by decide +kernel
theorem dX10_runGood_102 : decode cX10_runGood 102 = .ok (.iload_n 1, 1) := by decide +kernel
theorem dX10_runGood_103 : decode cX10_runGood 103 = .ok (.aload_n 0, 1) := by decide +kernel
theorem dX10_runGood_104 : decode cX10_runGood 104 = .ok (.getfield 9, 3) := by decide +kernel
theorem dX10_runGood_107 : decode cX10_runGood 107 = .ok (.iload_n 2, 1) := by decide +kernel
theorem dX10_runGood_108 : decode cX10_runGood 108 = .ok (.laload, 1) := by decide +kernel
theorem dX10_runGood_109 : decode cX10_runGood 109 = .ok (.lastore, 1) := by decide +kernel
theorem dX10_runGood_110 : decode cX10_runGood 110 = .ok (.aload_n 0, 1) := by decide +kernel
theorem dX10_runGood_111 : decode cX10_runGood 111 = .ok (.getfield 21, 3) := by decide +kernel
theorem dX10_runGood_114 : decode cX10_runGood 114 = .ok (.iload_n 1, 1) := by decide +kernel
theorem dX10_runGood_115 : decode cX10_runGood 115 = .ok (.aload_n 0, 1) := by decide +kernel
theorem dX10_runGood_116 : decode cX10_runGood 116 = .ok (.getfield 15, 3) := by decide +kernel
theorem dX10_runGood_119 : decode cX10_runGood 119 = .ok (.iload_n 2, 1) := by decide +kernel
theorem dX10_runGood_120 : decode cX10_runGood 120 = .ok (.laload, 1) := by decide +kernel
theorem dX10_runGood_121 : decode cX10_runGood 121 = .ok (.lastore, 1) := by decide +kernel
theorem dX10_runGood_122 : decode cX10_runGood 122 = .ok (.goto 112, 3) := by decide +kernel
theorem dX10_runGood_125 : decode cX10_runGood 125 = .ok (.aload_n 0, 1) := by decide +kernel
theorem dX10_runGood_126 : decode cX10_runGood 126 = .ok (.getfield 43, 3) := by decide +kernel
theorem dX10_runGood_129 : decode cX10_runGood 129 = .ok (.getfield 117, 3) := by decide +kernel
theorem dX10_runGood_132 : decode cX10_runGood 132 = .ok (.iload_n 1, 1) := by decide +kernel
theorem dX10_runGood_133 : decode cX10_runGood 133 = .ok (.iaload, 1) := by decide +kernel
theorem dX10_runGood_134 : decode cX10_runGood 134 = .ok (.istore_n 3, 1) := by decide +kernel
theorem dX10_runGood_135 : decode cX10_runGood 135 = .ok (.aload_n 0, 1) := by decide +kernel
theorem dX10_runGood_136 : decode cX10_runGood 136 = .ok (.getfield 43, 3) := by decide +kernel
theorem dX10_runGood_139 : decode cX10_runGood 139 = .ok (.getfield 120, 3) := by decide +kernel
theorem dX10_runGood_142 : decode cX10_runGood 142 = .ok (.iload_n 1, 1) := by decide +kernel
theorem dX10_runGood_143 : decode cX10_runGood 143 = .ok (.iaload, 1) := by decide +kernel
theorem dX10_runGood_144 : decode cX10_runGood 144 = .ok (.istore 4, 2) := by decide +kernel
theorem dX10_runGood_146 : decode cX10_runGood 146 = .ok (.aload_n 0, 1) := by decide +kernel
theorem dX10_runGood_147 : decode cX10_runGood 147 = .ok (.getfield 18, 3) := by decide +kernel
theorem dX10_runGood_150 : decode cX10_runGood 150 = .ok (.iload_n 1, 1) := by decide +kernel
theorem dX10_runGood_151 : decode cX10_runGood 151 = .ok (.aload_n 0, 1) := by decide +kernel
theorem dX10_runGood_152 : decode cX10_runGood 152 = .ok (.getfield 43, 3) := by decide +kernel
theorem dX10_runGood_155 : decode cX10_runGood 155 = .ok (.getfield 123, 3) := by decide +kernel
theorem dX10_runGood_158 : decode cX10_runGood 158 = .ok (.iload_n 1, 1) := by decide +kernel
theorem dX10_runGood_159 : decode cX10_runGood 159 = .ok (.caload, 1) := by decide +kernel
theorem dX10_runGood_160 : decode cX10_runGood 160 = .ok (.aload_n 0, 1) := by decide +kernel
theorem dX10_runGood_161 : decode cX10_runGood 161 = .ok (.getfield 18, 3) := by decide +kernel
theorem dX10_runGood_164 : decode cX10_runGood 164 = .ok (.iload_n 3, 1) := by decide +kernel
theorem dX10_runGood_165 : decode cX10_runGood 165 = .ok (.laload, 1) := by decide +kernel
theorem dX10_runGood_166 : decode cX10_runGood 166 = .ok (.aload_n 0, 1) := by decide +kernel
theorem dX10_runGood_167 : decode cX10_runGood 167 = .ok (.getfield 21, 3) := by decide +kernel
theorem dX10_runGood_170 : decode cX10_runGood 170 = .ok (.iload_n 3, 1) := by decide +kernel
theorem dX10_runGood_171 : decode cX10_runGood 171 = .ok (.laload, 1) := by decide +kernel
theorem dX10_runGood_172 : decode cX10_runGood 172 = .ok (.aload_n 0, 1) := by decide +kernel
theorem dX10_runGood_173 : decode cX10_runGood 173 = .ok (.getfield 18, 3) := by decide +kernel
theorem dX10_runGood_176 : decode cX10_runGood 176 = .ok (.iload 4, 2) := by decide +kernel
theorem dX10_runGood_178 : decode cX10_runGood 178 = .ok (.laload, 1) := by decide +kernel
theorem dX10_runGood_179 : decode cX10_runGood 179 = .ok (.aload_n 0, 1) := by decide +kernel
theorem dX10_runGood_180 : decode cX10_runGood 180 = .ok (.getfield 21, 3) := by decide +kernel
theorem dX10_runGood_183 : decode cX10_runGood 183 = .ok (.iload 4, 2) := by decide +kernel
theorem dX10_runGood_185 : decode cX10_runGood 185 = .ok (.laload, 1) := by decide +kernel
theorem dX10_runGood_186 : decode cX10_runGood 186 = .ok (.invokestatic 127, 3) := by decide +kernel
theorem dX10_runGood_189 : decode cX10_runGood 189 = .ok (.lastore, 1) := by decide +kernel
theorem dX10_runGood_190 : decode cX10_runGood 190 = .ok (.aload_n 0, 1) := by decide +kernel
theorem dX10_runGood_191 : decode cX10_runGood 191 = .ok (.getfield 21, 3) := by decide +kernel
theorem dX10_runGood_194 : decode cX10_runGood 194 = .ok (.iload_n 1, 1) := by decide +kernel
theorem dX10_runGood_195 : decode cX10_runGood 195 = .ok (.aload_n 0, 1) := by decide +kernel
theorem dX10_runGood_196 : decode cX10_runGood 196 = .ok (.getfield 43, 3) := by decide +kernel
theorem dX10_runGood_199 : decode cX10_runGood 199 = .ok (.getfield 123, 3) := by decide +kernel
theorem dX10_runGood_202 : decode cX10_runGood 202 = .ok (.iload_n 1, 1) := by decide +kernel
theorem dX10_runGood_203 : decode cX10_runGood 203 = .ok (.caload, 1) := by decide +kernel
theorem dX10_runGood_204 : decode cX10_runGood 204 = .ok (.aload_n 0, 1) := by decide +kernel
theorem dX10_runGood_205 : decode cX10_runGood 205 = .ok (.getfield 18, 3) := by decide +kernel
theorem dX10_runGood_208 : decode cX10_runGood 208 = .ok (.iload_n 3, 1) := by decide +kernel
theorem dX10_runGood_209 : decode cX10_runGood 209 = .ok (.laload, 1) := by decide +kernel
theorem dX10_runGood_210 : decode cX10_runGood 210 = .ok (.aload_n 0, 1) := by decide +kernel
theorem dX10_runGood_211 : decode cX10_runGood 211 = .ok (.getfield 21, 3) := by decide +kernel
theorem dX10_runGood_214 : decode cX10_runGood 214 = .ok (.iload_n 3, 1) := by decide +kernel
theorem dX10_runGood_215 : decode cX10_runGood 215 = .ok (.laload, 1) := by decide +kernel
theorem dX10_runGood_216 : decode cX10_runGood 216 = .ok (.aload_n 0, 1) := by decide +kernel
theorem dX10_runGood_217 : decode cX10_runGood 217 = .ok (.getfield 18, 3) := by decide +kernel
theorem dX10_runGood_220 : decode cX10_runGood 220 = .ok (.iload 4, 2) := by decide +kernel
theorem dX10_runGood_222 : decode cX10_runGood 222 = .ok (.laload, 1) := by decide +kernel
theorem dX10_runGood_223 : decode cX10_runGood 223 = .ok (.aload_n 0, 1) := by decide +kernel
theorem dX10_runGood_224 : decode cX10_runGood 224 = .ok (.getfield 21, 3) := by decide +kernel
theorem dX10_runGood_227 : decode cX10_runGood 227 = .ok (.iload 4, 2) := by decide +kernel
theorem dX10_runGood_229 : decode cX10_runGood 229 = .ok (.laload, 1) := by decide +kernel
theorem dX10_runGood_230 : decode cX10_runGood 230 = .ok (.invokestatic 131, 3) := by decide +kernel
theorem dX10_runGood_233 : decode cX10_runGood 233 = .ok (.lastore, 1) := by decide +kernel
theorem dX10_runGood_234 : decode cX10_runGood 234 = .ok (.iinc 1 1, 3) := by decide +kernel
theorem dX10_runGood_237 : decode cX10_runGood 237 = .ok (.goto (-230), 3) := by decide +kernel
theorem dX10_runGood_240 : decode cX10_runGood 240 = .ok (.return_, 1) := by decide +kernel
theorem dX10_runSeveral_0 : decode cX10_runSeveral 0 = .ok (.aload_n 0, 1) := by decide +kernel
theorem dX10_runSeveral_1 : decode cX10_runSeveral 1 = .ok (.aload_n 0, 1) := by decide +kernel
theorem dX10_runSeveral_2 : decode cX10_runSeveral 2 = .ok (.getfield 43, 3) := by decide +kernel
theorem dX10_runSeveral_5 : decode cX10_runSeveral 5 = .ok (.getfield 108, 3) := by decide +kernel
theorem dX10_runSeveral_8 : decode cX10_runSeveral 8 = .ok (.putfield 134, 3) := by decide +kernel
theorem dX10_runSeveral_11 : decode cX10_runSeveral 11 = .ok (.iconst 0, 1) := by decide +kernel
theorem dX10_runSeveral_12 : decode cX10_runSeveral 12 = .ok (.istore_n 3, 1) := by decide +kernel
theorem dX10_runSeveral_13 : decode cX10_runSeveral 13 = .ok (.iload_n 3, 1) := by decide +kernel
theorem dX10_runSeveral_14 : decode cX10_runSeveral 14 = .ok (.iload_n 2, 1) := by decide +kernel
theorem dX10_runSeveral_15 : decode cX10_runSeveral 15 = .ok (.if_icmp .ge 16, 3) := by decide +kernel
theorem dX10_runSeveral_18 : decode cX10_runSeveral 18 = .ok (.aload_n 0, 1) := by decide +kernel
theorem dX10_runSeveral_19 : decode cX10_runSeveral 19 = .ok (.aload_n 1, 1) := by decide +kernel
theorem dX10_runSeveral_20 : decode cX10_runSeveral 20 = .ok (.iload_n 3, 1) := by decide +kernel
theorem dX10_runSeveral_21 : decode cX10_runSeveral 21 = .ok (.iaload, 1) := by decide +kernel
theorem dX10_runSeveral_22 : decode cX10_runSeveral 22 = .ok (.invokevirtual 137, 3) := by decide +kernel
theorem dX10_runSeveral_25 : decode cX10_runSeveral 25 = .ok (.iinc 3 1, 3) := by decide +kernel
theorem dX10_runSeveral_28 : decode cX10_runSeveral 28 = .ok (.goto (-15), 3) := by decide +kernel
theorem dX10_runSeveral_31 : decode cX10_runSeveral 31 = .ok (.aload_n 0, 1) := by decide +kernel
theorem dX10_runSeveral_32 : decode cX10_runSeveral 32 = .ok (.invokevirtual 140, 3) := by decide +kernel
theorem dX10_runSeveral_35 : decode cX10_runSeveral 35 = .ok (.iconst 0, 1) := by decide +kernel
theorem dX10_runSeveral_36 : decode cX10_runSeveral 36 = .ok (.istore_n 3, 1) := by decide +kernel
theorem dX10_runSeveral_37 : decode cX10_runSeveral 37 = .ok (.iload_n 3, 1) := by decide +kernel
theorem dX10_runSeveral_38 : decode cX10_runSeveral 38 = .ok (.iload_n 2, 1) := by decide +kernel
theorem dX10_runSeveral_39 : decode cX10_runSeveral 39 = .ok (.if_icmp .ge 16, 3) := by decide +kernel
theorem dX10_runSeveral_42 : decode cX10_runSeveral 42 = .ok (.aload_n 0, 1) := by decide +kernel
theorem dX10_runSeveral_43 : decode cX10_runSeveral 43 = .ok (.aload_n 1, 1) := by decide +kernel
theorem dX10_runSeveral_44 : decode cX10_runSeveral 44 = .ok (.iload_n 3, 1) := by decide +kernel
theorem dX10_runSeveral_45 : decode cX10_runSeveral 45 = .ok (.iaload, 1) := by decide +kernel
theorem dX10_runSeveral_46 : decode cX10_runSeveral 46 = .ok (.invokevirtual 143, 3) := by decide +kernel
theorem dX10_runSeveral_49 : decode cX10_runSeveral 49 = .ok (.iinc 3 1, 3) := by decide +kernel
theorem dX10_runSeveral_52 : decode cX10_runSeveral 52 = .ok (.goto (-15), 3) := by decide +kernel
theorem dX10_runSeveral_55 : decode cX10_runSeveral 55 = .ok (.return_, 1) := by decide +kernel
theorem dX10_spread_0 : decode cX10_spread 0 = .ok (.aload_n 0, 1) := by decide +kernel
theorem dX10_spread_1 : decode cX10_spread 1 = .ok (.lconst 0, 1) := by decide +kernel
theorem dX10_spread_2 : decode cX10_spread 2 = .ok (.putfield 105, 3) := by decide +kernel
theorem dX10_spread_5 : decode cX10_spread 5 = .ok (.aload_n 0, 1) := by decide +kernel
theorem dX10_spread_6 : decode cX10_spread 6 = .ok (.getfield 134, 3) := by decide +kernel
theorem dX10_spread_9 : decode cX10_spread 9 = .ok (.istore_n 1, 1) := by decide +kernel
theorem dX10_spread_10 : decode cX10_spread 10 = .ok (.iload_n 1, 1) := by decide +kernel
theorem dX10_spread_11 : decode cX10_spread 11 = .ok (.aload_n 0, 1) := by decide +kernel
theorem dX10_spread_12 : decode cX10_spread 12 = .ok (.getfield 43, 3) := by decide +kernel
theorem dX10_spread_15 : decode cX10_spread 15 = .ok (.getfield 108, 3) := by decide +kernel
theorem dX10_spread_18 : decode cX10_spread 18 = .ok (.if_icmp .ge 149, 3) := by decide +kernel
theorem dX10_spread_21 : decode cX10_spread 21 = .ok (.aload_n 0, 1) := by decide +kernel
theorem dX10_spread_22 : decode cX10_spread 22 = .ok (.getfield 51, 3) := by decide +kernel
theorem dX10_spread_25 : decode cX10_spread 25 = .ok (.ifCond .lt 43, 3) := by decide +kernel
theorem dX10_spread_28 : decode cX10_spread 28 = .ok (.aload_n 0, 1) := by decide +kernel
theorem dX10_spread_29 : decode cX10_spread 29 = .ok (.getfield 47, 3) := by decide +kernel
theorem dX10_spread_32 : decode cX10_spread 32 = .ok (.getfield 150, 3) := by decide +kernel
theorem dX10_spread_35 : decode cX10_spread 35 = .ok (.aload_n 0, 1) := by decide +kernel
theorem dX10_spread_36 : decode cX10_spread 36 = .ok (.getfield 51, 3) := by decide +kernel
theorem dX10_spread_39 : decode cX10_spread 39 = .ok (.iaload, 1) := by decide +kernel
theorem dX10_spread_40 : decode cX10_spread 40 = .ok (.iload_n 1, 1) := by decide +kernel
theorem dX10_spread_41 : decode cX10_spread 41 = .ok (.if_icmp .eq 19, 3) := by decide +kernel
theorem dX10_spread_44 : decode cX10_spread 44 = .ok (.aload_n 0, 1) := by decide +kernel
theorem dX10_spread_45 : decode cX10_spread 45 = .ok (.getfield 47, 3) := by decide +kernel
theorem dX10_spread_48 : decode cX10_spread 48 = .ok (.getfield 167, 3) := by decide +kernel
theorem dX10_spread_51 : decode cX10_spread 51 = .ok (.aload_n 0, 1) := by decide +kernel
theorem dX10_spread_52 : decode cX10_spread 52 = .ok (.getfield 51, 3) := by decide +kernel
theorem dX10_spread_55 : decode cX10_spread 55 = .ok (.iaload, 1) := by decide +kernel
theorem dX10_spread_56 : decode cX10_spread 56 = .ok (.iload_n 1, 1) := by decide +kernel
theorem dX10_spread_57 : decode cX10_spread 57 = .ok (.if_icmp .ne 11, 3) := by decide +kernel
theorem dX10_spread_60 : decode cX10_spread 60 = .ok (.aload_n 0, 1) := by decide +kernel
theorem dX10_spread_61 : decode cX10_spread 61 = .ok (.iload_n 1, 1) := by decide +kernel
theorem dX10_spread_62 : decode cX10_spread 62 = .ok (.invokevirtual 179, 3) := by decide +kernel
theorem dX10_spread_65 : decode cX10_spread 65 = .ok (.goto 96, 3) := by decide +kernel
theorem dX10_spread_68 : decode cX10_spread 68 = .ok (.aload_n 0, 1) := by decide +kernel
theorem dX10_spread_69 : decode cX10_spread 69 = .ok (.getfield 30, 3) := by decide +kernel
theorem dX10_spread_72 : decode cX10_spread 72 = .ok (.iload_n 1, 1) := by decide +kernel
theorem dX10_spread_73 : decode cX10_spread 73 = .ok (.iaload, 1) := by decide +kernel
theorem dX10_spread_74 : decode cX10_spread 74 = .ok (.iconst 2, 1) := by decide +kernel
theorem dX10_spread_75 : decode cX10_spread 75 = .ok (.if_icmp .eq 73, 3) := by decide +kernel
theorem dX10_spread_78 : decode cX10_spread 78 = .ok (.aload_n 0, 1) := by decide +kernel
theorem dX10_spread_79 : decode cX10_spread 79 = .ok (.getfield 155, 3) := by decide +kernel
theorem dX10_spread_82 : decode cX10_spread 82 = .ok (.ldc2_w 61, 3) := by decide +kernel
theorem dX10_spread_85 : decode cX10_spread 85 = .ok (.lxor, 1) := by decide +kernel
theorem dX10_spread_86 : decode cX10_spread 86 = .ok (.lstore_n 2, 1) := by decide +kernel
theorem dX10_spread_87 : decode cX10_spread 87 = .ok (.aload_n 0, 1) := by decide +kernel
theorem dX10_spread_88 : decode cX10_spread 88 = .ok (.iload_n 1, 1) := by decide +kernel
theorem dX10_spread_89 : decode cX10_spread 89 = .ok (.aload_n 0, 1) := by decide +kernel
theorem dX10_spread_90 : decode cX10_spread 90 = .ok (.getfield 30, 3) := by decide +kernel
theorem dX10_spread_93 : decode cX10_spread 93 = .ok (.iload_n 1, 1) := by decide +kernel
theorem dX10_spread_94 : decode cX10_spread 94 = .ok (.iaload, 1) := by decide +kernel
theorem dX10_spread_95 : decode cX10_spread 95 = .ok (.ifCond .ne 10, 3) := by decide +kernel
theorem dX10_spread_98 : decode cX10_spread 98 = .ok (.aload_n 0, 1) := by decide +kernel
theorem dX10_spread_99 : decode cX10_spread 99 = .ok (.getfield 155, 3) := by decide +kernel
theorem dX10_spread_102 : decode cX10_spread 102 = .ok (.goto 4, 3) := by decide +kernel
theorem dX10_spread_105 : decode cX10_spread 105 = .ok (.lconst 0, 1) := by decide +kernel
theorem dX10_spread_106 : decode cX10_spread 106 = .ok (.aload_n 0, 1) := by decide +kernel
theorem dX10_spread_107 : decode cX10_spread 107 = .ok (.getfield 18, 3) := by decide +kernel
theorem dX10_spread_110 : decode cX10_spread 110 = .ok (.iload_n 1, 1) := by decide +kernel
theorem dX10_spread_111 : decode cX10_spread 111 = .ok (.laload, 1) := by decide +kernel
theorem dX10_spread_112 : decode cX10_spread 112 = .ok (.lload_n 2, 1) := by decide +kernel
theorem dX10_spread_113 : decode cX10_spread 113 = .ok (.land, 1) := by decide +kernel
theorem dX10_spread_114 : decode cX10_spread 114 = .ok (.lor, 1) := by decide +kernel
theorem dX10_spread_115 : decode cX10_spread 115 = .ok (.aload_n 0, 1) := by decide +kernel
theorem dX10_spread_116 : decode cX10_spread 116 = .ok (.getfield 30, 3) := by decide +kernel
theorem dX10_spread_119 : decode cX10_spread 119 = .ok (.iload_n 1, 1) := by decide +kernel
theorem dX10_spread_120 : decode cX10_spread 120 = .ok (.iaload, 1) := by decide +kernel
theorem dX10_spread_121 : decode cX10_spread 121 = .ok (.iconst 1, 1) := by decide +kernel
theorem dX10_spread_122 : decode cX10_spread 122 = .ok (.if_icmp .ne 10, 3) := by decide +kernel
theorem dX10_spread_125 : decode cX10_spread 125 = .ok (.aload_n 0, 1) := by decide +kernel
theorem dX10_spread_126 : decode cX10_spread 126 = .ok (.getfield 155, 3) := by decide +kernel
theorem dX10_spread_129 : decode cX10_spread 129 = .ok (.goto 4, 3) := by decide +kernel
theorem dX10_spread_132 : decode cX10_spread 132 = .ok (.lconst 0, 1) := by decide +kernel
theorem dX10_spread_133 : decode cX10_spread 133 = .ok (.aload_n 0, 1) := by decide +kernel
theorem dX10_spread_134 : decode cX10_spread 134 = .ok (.getfield 21, 3) := by decide +kernel
theorem dX10_spread_137 : decode cX10_spread 137 = .ok (.iload_n 1, 1) := by decide +kernel
theorem dX10_spread_138 : decode cX10_spread 138 = .ok (.laload, 1) := by decide +kernel
theorem dX10_spread_139 : decode cX10_spread 139 = .ok (.lload_n 2, 1) := by decide +kernel
theorem dX10_spread_140 : decode cX10_spread 140 = .ok (.land, 1) := by decide +kernel
theorem dX10_spread_141 : decode cX10_spread 141 = .ok (.lor, 1) := by decide +kernel
theorem dX10_spread_142 : decode cX10_spread 142 = .ok (.invokevirtual 182, 3) := by decide +kernel
theorem dX10_spread_145 : decode cX10_spread 145 = .ok (.goto 16, 3) := by decide +kernel
theorem dX10_spread_148 : decode cX10_spread 148 = .ok (.aload_n 0, 1) := by decide +kernel
theorem dX10_spread_149 : decode cX10_spread 149 = .ok (.iload_n 1, 1) := by decide +kernel
theorem dX10_spread_150 : decode cX10_spread 150 = .ok (.invokevirtual 186, 3) := by decide +kernel
theorem dX10_spread_153 : decode cX10_spread 153 = .ok (.ifCond .eq 8, 3) := by decide +kernel
theorem dX10_spread_156 : decode cX10_spread 156 = .ok (.aload_n 0, 1) := by decide +kernel
theorem dX10_spread_157 : decode cX10_spread 157 = .ok (.iload_n 1, 1) := by decide +kernel
theorem dX10_spread_158 : decode cX10_spread 158 = .ok (.invokevirtual 189, 3) := by decide +kernel
theorem dX10_spread_161 : decode cX10_spread 161 = .ok (.iinc 1 1, 3) := by decide +kernel
theorem dX10_spread_164 : decode cX10_spread 164 = .ok (.goto (-154), 3) := by decide +kernel
theorem dX10_spread_167 : decode cX10_spread 167 = .ok (.return_, 1) := by decide +kernel
theorem dX11_addSource_0 : decode cX11_addSource 0 = .ok (.aload_n 0, 1) := by decide +kernel
theorem dX11_addSource_1 : decode cX11_addSource 1 = .ok (.invokevirtual 135, 3) := by decide +kernel
theorem dX11_addSource_4 : decode cX11_addSource 4 = .ok (.aload_n 0, 1) := by decide +kernel
theorem dX11_addSource_5 : decode cX11_addSource 5 = .ok (.getfield 10, 3) := by decide +kernel
theorem dX11_addSource_8 : decode cX11_addSource 8 = .ok (.getfield 96, 3) := by decide +kernel
theorem dX11_addSource_11 : decode cX11_addSource 11 = .ok (.bipush 40, 2) := by decide +kernel
theorem dX11_addSource_13 : decode cX11_addSource 13 = .ok (.if_icmp .ge 15, 3) := by decide +kernel
theorem dX11_addSource_16 : decode cX11_addSource 16 = .ok (.aload_n 0, 1) := by decide +kernel
theorem dX11_addSource_17 : decode cX11_addSource 17 = .ok (.getfield 10, 3) := by decide +kernel
theorem dX11_addSource_20 : decode cX11_addSource 20 = .ok (.getfield 138, 3) := by decide +kernel
theorem dX11_addSource_23 : decode cX11_addSource 23 = .ok (.bipush 12, 2) := by decide +kernel
theorem dX11_addSource_25 : decode cX11_addSource 25 = .ok (.if_icmp .lt 11, 3) := by decide +kernel
theorem dX11_addSource_28 : decode cX11_addSource 28 = .ok (.new 141, 3) := by decide +kernel
theorem dX11_addSource_31 : decode cX11_addSource 31 = .ok (.dup, 1) := by decide +kernel
theorem dX11_addSource_32 : decode cX11_addSource 32 = .ok (.invokespecial 143, 3) := by decide +kernel
theorem dX11_addSource_35 : decode cX11_addSource 35 = .ok (.athrow, 1) := by decide +kernel
theorem dX11_addSource_36 : decode cX11_addSource 36 = .ok (.aload_n 0, 1) := by decide +kernel
theorem dX11_addSource_37 : decode cX11_addSource 37 = .ok (.getfield 10, 3) := by decide +kernel
theorem dX11_addSource_40 : decode cX11_addSource 40 = .ok (.iload_n 1, 1) := by decide +kernel
theorem dX11_addSource_41 : decode cX11_addSource 41 = .ok (.invokevirtual 144, 3) := by decide +kernel
theorem dX11_addSource_44 : decode cX11_addSource 44 = .ok (.ireturn, 1) := by decide +kernel
theorem dX11_aliased_0 : decode cX11_aliased 0 = .ok (.aload_n 0, 1) := by decide +kernel
theorem dX11_aliased_1 : decode cX11_aliased 1 = .ok (.getfield 37, 3) := by decide +kernel
theorem dX11_aliased_4 : decode cX11_aliased 4 = .ok (.aload_n 0, 1) := by decide +kernel
theorem dX11_aliased_5 : decode cX11_aliased 5 = .ok (.getfield 28, 3) := by decide +kernel
theorem dX11_aliased_8 : decode cX11_aliased 8 = .ok (.invokevirtual 378, 3) := by decide +kernel
theorem dX11_aliased_11 : decode cX11_aliased 11 = .ok (.aload_n 0, 1) := by decide +kernel
theorem dX11_aliased_12 : decode cX11_aliased 12 = .ok (.getfield 37, 3) := by decide +kernel
theorem dX11_aliased_15 : decode cX11_aliased 15 = .ok (.invokevirtual 381, 3) := by decide +kernel
theorem dX11_aliased_18 : decode cX11_aliased 18 = .ok (.aload_n 0, 1) := by decide +kernel
theorem dX11_aliased_19 : decode cX11_aliased 19 = .ok (.invokevirtual 387, 3) := by decide +kernel
theorem dX11_aliased_22 : decode cX11_aliased 22 = .ok (.istore_n 1, 1) := by decide +kernel
theorem dX11_aliased_23 : decode cX11_aliased 23 = .ok (.iconst 0, 1) := by decide +kernel
theorem dX11_aliased_24 : decode cX11_aliased 24 = .ok (.istore_n 2, 1) := by decide +kernel
theorem dX11_aliased_25 : decode cX11_aliased 25 = .ok (.iconst 0, 1) := by decide +kernel
theorem dX11_aliased_26 : decode cX11_aliased 26 = .ok (.istore_n 3, 1) := by decide +kernel
theorem dX11_aliased_27 : decode cX11_aliased 27 = .ok (.iload_n 3, 1) := by decide +kernel
theorem dX11_aliased_28 : decode cX11_aliased 28 = .ok (.aload_n 0, 1) := by decide +kernel
theorem dX11_aliased_29 : decode cX11_aliased 29 = .ok (.getfield 21, 3) := by decide +kernel
theorem dX11_aliased_32 : decode cX11_aliased 32 = .ok (.getfield 111, 3) := by decide +kernel
theorem dX11_aliased_35 : decode cX11_aliased 35 = .ok (.if_icmp .ge 44, 3) := by decide +kernel
theorem dX11_aliased_38 : decode cX11_aliased 38 = .ok (.aload_n 0, 1) := by decide +kernel
theorem dX11_aliased_39 : decode cX11_aliased 39 = .ok (.getfield 21, 3) := by decide +kernel
theorem dX11_aliased_42 : decode cX11_aliased 42 = .ok (.iload_n 3, 1) := by decide +kernel
theorem dX11_aliased_43 : decode cX11_aliased 43 = .ok (.invokevirtual 294, 3) := by decide +kernel
theorem dX11_aliased_46 : decode cX11_aliased 46 = .ok (.ifCond .eq 27, 3) := by decide +kernel
theorem dX11_aliased_49 : decode cX11_aliased 49 = .ok (.aload_n 0, 1) := by decide +kernel
theorem dX11_aliased_50 : decode cX11_aliased 50 = .ok (.getfield 37, 3) := by decide +kernel
theorem dX11_aliased_53 : decode cX11_aliased 53 = .ok (.iload_n 3, 1) := by decide +kernel
theorem dX11_aliased_54 : decode cX11_aliased 54 = .ok (.invokevirtual 383, 3) := by decide +kernel
theorem dX11_aliased_57 : decode cX11_aliased 57 = .ok (.lconst 0, 1) := by decide +kernel
theorem dX11_aliased_58 : decode cX11_aliased 58 = .ok (.lcmp, 1) := by decide +kernel
theorem dX11_aliased_59 : decode cX11_aliased 59 = .ok (.ifCond .eq 14, 3) := by decide +kernel
theorem dX11_aliased_62 : decode cX11_aliased 62 = .ok (.aload_n 0, 1) := by decide +kernel
theorem dX11_aliased_63 : decode cX11_aliased 63 = .ok (.invokevirtual 387, 3) := by decide +kernel
theorem dX11_aliased_66 : decode cX11_aliased 66 = .ok (.iload_n 1, 1) := by decide +kernel
theorem dX11_aliased_67 : decode cX11_aliased 67 = .ok (.if_icmp .ne 6, 3) := by decide +kernel
theorem dX11_aliased_70 : decode cX11_aliased 70 = .ok (.iinc 2 1, 3) := by decide +kernel
theorem dX11_aliased_73 : decode cX11_aliased 73 = .ok (.iinc 3 1, 3) := by decide +kernel
theorem dX11_aliased_76 : decode cX11_aliased 76 = .ok (.goto (-49), 3) := by decide +kernel
theorem dX11_aliased_79 : decode cX11_aliased 79 = .ok (.iload_n 2, 1) := by decide +kernel
theorem dX11_aliased_80 : decode cX11_aliased 80 = .ok (.ireturn, 1) := by decide +kernel
theorem dX11_alike_0 : decode cX11_alike 0 = .ok (.aload_n 0, 1) := by decide +kernel
theorem dX11_alike_1 : decode cX11_alike 1 = .ok (.iload_n 1, 1) := by decide +kernel
theorem dX11_alike_2 : decode cX11_alike 2 = .ok (.invokevirtual 107, 3) := by decide +kernel
theorem dX11_alike_5 : decode cX11_alike 5 = .ok (.aload_n 0, 1) := by decide +kernel
theorem dX11_alike_6 : decode cX11_alike 6 = .ok (.getfield 21, 3) := by decide +kernel
theorem dX11_alike_9 : decode cX11_alike 9 = .ok (.getfield 222, 3) := by decide +kernel
theorem dX11_alike_12 : decode cX11_alike 12 = .ok (.iload_n 1, 1) := by decide +kernel
theorem dX11_alike_13 : decode cX11_alike 13 = .ok (.iaload, 1) := by decide +kernel
theorem dX11_alike_14 : decode cX11_alike 14 = .ok (.ireturn, 1) := by decide +kernel
theorem dX11_badWires_0 : decode cX11_badWires 0 = .ok (.aload_n 0, 1) := by decide +kernel
theorem dX11_badWires_1 : decode cX11_badWires 1 = .ok (.iload_n 1, 1) := by decide +kernel
theorem dX11_badWires_2 : decode cX11_badWires 2 = .ok (.invokevirtual 526, 3) := by decide +kernel
theorem dX11_badWires_5 : decode cX11_badWires 5 = .ok (.iconst 0, 1) := by decide +kernel
theorem dX11_badWires_6 : decode cX11_badWires 6 = .ok (.istore_n 2, 1) := by decide +kernel
theorem dX11_badWires_7 : decode cX11_badWires 7 = .ok (.iconst 0, 1) := by decide +kernel
theorem dX11_badWires_8 : decode cX11_badWires 8 = .ok (.istore_n 3, 1) := by decide +kernel
theorem dX11_badWires_9 : decode cX11_badWires 9 = .ok (.iload_n 3, 1) := by decide +kernel
theorem dX11_badWires_10 : decode cX11_badWires 10 = .ok (.aload_n 0, 1) := by decide +kernel
theorem dX11_badWires_11 : decode cX11_badWires 11 = .ok (.getfield 85, 3) := by decide +kernel
theorem dX11_badWires_14 : decode cX11_badWires 14 = .ok (.getfield 128, 3) := by decide +kernel
theorem dX11_badWires_17 : decode cX11_badWires 17 = .ok (.if_icmp .ge 36, 3) := by decide +kernel
theorem dX11_badWires_20 : decode cX11_badWires 20 = .ok (.aload_n 0, 1) := by decide +kernel
theorem dX11_badWires_21 : decode cX11_badWires 21 = .ok (.getfield 85, 3) := by decide +kernel
theorem dX11_badWires_24 : decode cX11_badWires 24 = .ok (.iload_n 3, 1) := by decide +kernel
theorem dX11_badWires_25 : decode cX11_badWires 25 = .ok (.iload_n 1, 1) := by decide +kernel
theorem dX11_badWires_26 : decode cX11_badWires 26 = .ok (.invokevirtual 529, 3) := by decide +kernel
theorem dX11_badWires_29 : decode cX11_badWires 29 = .ok (.aload_n 0, 1) := by decide +kernel
theorem dX11_badWires_30 : decode cX11_badWires 30 = .ok (.getfield 85, 3) := by decide +kernel
theorem dX11_badWires_33 : decode cX11_badWires 33 = .ok (.iload_n 3, 1) := by decide +kernel
theorem dX11_badWires_34 : decode cX11_badWires 34 = .ok (.iload_n 1, 1) := by decide +kernel
theorem dX11_badWires_35 : decode cX11_badWires 35 = .ok (.invokevirtual 532, 3) := by decide +kernel
theorem dX11_badWires_38 : decode cX11_badWires 38 = .ok (.if_icmp .eq 9, 3) := by decide +kernel
theorem dX11_badWires_41 : decode cX11_badWires 41 = .ok (.iload_n 2, 1) := by decide +kernel
theorem dX11_badWires_42 : decode cX11_badWires 42 = .ok (.iconst 1, 1) := by decide +kernel
theorem dX11_badWires_43 : decode cX11_badWires 43 = .ok (.iload_n 3, 1) := by decide +kernel
theorem dX11_badWires_44 : decode cX11_badWires 44 = .ok (.ishl, 1) := by decide +kernel
theorem dX11_badWires_45 : decode cX11_badWires 45 = .ok (.ior, 1) := by decide +kernel
theorem dX11_badWires_46 : decode cX11_badWires 46 = .ok (.istore_n 2, 1) := by decide +kernel
theorem dX11_badWires_47 : decode cX11_badWires 47 = .ok (.iinc 3 1, 3) := by decide +kernel
theorem dX11_badWires_50 : decode cX11_badWires 50 = .ok (.goto (-41), 3) := by decide +kernel
theorem dX11_badWires_53 : decode cX11_badWires 53 = .ok (.iload_n 2, 1) := by decide +kernel
theorem dX11_badWires_54 : decode cX11_badWires 54 = .ok (.ireturn, 1) := by decide +kernel
theorem dX11_begins_0 : decode cX11_begins 0 = .ok (.iload_n 3, 1) := by decide +kernel
theorem dX11_begins_1 : decode cX11_begins 1 = .ok (.ifCond .lt 14, 3) := by decide +kernel
theorem dX11_begins_4 : decode cX11_begins 4 = .ok (.iload_n 3, 1) := by decide +kernel
theorem dX11_begins_5 : decode cX11_begins 5 = .ok (.aload_n 0, 1) := by decide +kernel
theorem dX11_begins_6 : decode cX11_begins 6 = .ok (.getfield 92, 3) := by decide +kernel
theorem dX11_begins_9 : decode cX11_begins 9 = .ok (.getfield 535, 3) := by decide +kernel
theorem dX11_begins_12 : decode cX11_begins 12 = .ok (.if_icmp .lt 11, 3) := by decide +kernel
theorem dX11_begins_15 : decode cX11_begins 15 = .ok (.new 100, 3) := by decide +kernel
theorem dX11_begins_18 : decode cX11_begins 18 = .ok (.dup, 1) := by decide +kernel
theorem dX11_begins_19 : decode cX11_begins 19 = .ok (.invokespecial 102, 3) := by decide +kernel
theorem dX11_begins_22 : decode cX11_begins 22 = .ok (.athrow, 1) := by decide +kernel
theorem dX11_begins_23 : decode cX11_begins 23 = .ok (.aload_n 0, 1) := by decide +kernel
theorem dX11_begins_24 : decode cX11_begins 24 = .ok (.iload_n 1, 1) := by decide +kernel
theorem dX11_begins_25 : decode cX11_begins 25 = .ok (.iload_n 2, 1) := by decide +kernel
theorem dX11_begins_26 : decode cX11_begins 26 = .ok (.invokevirtual 538, 3) := by decide +kernel
theorem dX11_begins_29 : decode cX11_begins 29 = .ok (.aload_n 0, 1) := by decide +kernel
theorem dX11_begins_30 : decode cX11_begins 30 = .ok (.getfield 92, 3) := by decide +kernel
theorem dX11_begins_33 : decode cX11_begins 33 = .ok (.iload_n 1, 1) := by decide +kernel
theorem dX11_begins_34 : decode cX11_begins 34 = .ok (.iload_n 2, 1) := by decide +kernel
theorem dX11_begins_35 : decode cX11_begins 35 = .ok (.invokevirtual 541, 3) := by decide +kernel
theorem dX11_begins_38 : decode cX11_begins 38 = .ok (.pop, 1) := by decide +kernel
theorem dX11_begins_39 : decode cX11_begins 39 = .ok (.aload_n 0, 1) := by decide +kernel
theorem dX11_begins_40 : decode cX11_begins 40 = .ok (.getfield 92, 3) := by decide +kernel
theorem dX11_begins_43 : decode cX11_begins 43 = .ok (.getfield 544, 3) := by decide +kernel
theorem dX11_begins_46 : decode cX11_begins 46 = .ok (.iload_n 3, 1) := by decide +kernel
theorem dX11_begins_47 : decode cX11_begins 47 = .ok (.iaload, 1) := by decide +kernel
theorem dX11_begins_48 : decode cX11_begins 48 = .ok (.ireturn, 1) := by decide +kernel
theorem dX11_board_0 : decode cX11_board 0 = .ok (.iload_n 1, 1) := by decide +kernel
theorem dX11_board_1 : decode cX11_board 1 = .ok (.iconst 1, 1) := by decide +kernel
theorem dX11_board_2 : decode cX11_board 2 = .ok (.bipush 12, 2) := by decide +kernel
theorem dX11_board_4 : decode cX11_board 4 = .ok (.invokestatic 361, 3) := by decide +kernel
theorem dX11_board_7 : decode cX11_board 7 = .ok (.iload_n 2, 1) := by decide +kernel
theorem dX11_board_8 : decode cX11_board 8 = .ok (.bipush 97, 2) := by decide +kernel
theorem dX11_board_10 : decode cX11_board 10 = .ok (.if_icmp .eq 17, 3) := by decide +kernel
theorem dX11_board_13 : decode cX11_board 13 = .ok (.iload_n 2, 1) := by decide +kernel
theorem dX11_board_14 : decode cX11_board 14 = .ok (.bipush 111, 2) := by decide +kernel
theorem dX11_board_16 : decode cX11_board 16 = .ok (.if_icmp .eq 11, 3) := by decide +kernel
theorem dX11_board_19 : decode cX11_board 19 = .ok (.new 114, 3) := by decide +kernel
theorem dX11_board_22 : decode cX11_board 22 = .ok (.dup, 1) := by decide +kernel
theorem dX11_board_23 : decode cX11_board 23 = .ok (.invokespecial 116, 3) := by decide +kernel
theorem dX11_board_26 : decode cX11_board 26 = .ok (.athrow, 1) := by decide +kernel
theorem dX11_board_27 : decode cX11_board 27 = .ok (.aload_n 0, 1) := by decide +kernel
theorem dX11_board_28 : decode cX11_board 28 = .ok (.getfield 85, 3) := by decide +kernel
theorem dX11_board_31 : decode cX11_board 31 = .ok (.iload_n 1, 1) := by decide +kernel
theorem dX11_board_32 : decode cX11_board 32 = .ok (.iload_n 2, 1) := by decide +kernel
theorem dX11_board_33 : decode cX11_board 33 = .ok (.invokevirtual 511, 3) := by decide +kernel
theorem dX11_board_36 : decode cX11_board 36 = .ok (.ireturn, 1) := by decide +kernel
theorem dX11_breakChain_0 : decode cX11_breakChain 0 = .ok (.iload_n 1, 1) := by decide +kernel
theorem dX11_breakChain_1 : decode cX11_breakChain 1 = .ok (.iconst (-1), 1) := by decide +kernel
theorem dX11_breakChain_2 : decode cX11_breakChain 2 = .ok (.aload_n 0, 1) := by decide +kernel
theorem dX11_breakChain_3 : decode cX11_breakChain 3 = .ok (.getfield 10, 3) := by decide +kernel
theorem dX11_breakChain_6 : decode cX11_breakChain 6 = .ok (.getfield 453, 3) := by decide +kernel
theorem dX11_breakChain_9 : decode cX11_breakChain 9 = .ok (.iconst 1, 1) := by decide +kernel
theorem dX11_breakChain_10 : decode cX11_breakChain 10 = .ok (.isub, 1) := by decide +kernel
theorem dX11_breakChain_11 : decode cX11_breakChain 11 = .ok (.invokestatic 361, 3) := by decide +kernel
theorem dX11_breakChain_14 : decode cX11_breakChain 14 = .ok (.iload_n 2, 1) := by decide +kernel
theorem dX11_breakChain_15 : decode cX11_breakChain 15 = .ok (.iconst 0, 1) := by decide +kernel
theorem dX11_breakChain_16 : decode cX11_breakChain 16 = .ok (.iconst 1, 1) := by decide +kernel
theorem dX11_breakChain_17 : decode cX11_breakChain 17 = .ok (.invokestatic 361, 3) := by decide +kernel
theorem dX11_breakChain_20 : decode cX11_breakChain 20 = .ok (.aload_n 0, 1) := by decide +kernel
theorem dX11_breakChain_21 : decode cX11_breakChain 21 = .ok (.invokevirtual 177, 3) := by decide +kernel
theorem dX11_breakChain_24 : decode cX11_breakChain 24 = .ok (.aload_n 0, 1) := by decide +kernel
theorem dX11_breakChain_25 : decode cX11_breakChain 25 = .ok (.getfield 71, 3) := by decide +kernel
theorem dX11_breakChain_28 : decode cX11_breakChain 28 = .ok (.getfield 456, 3) := by decide +kernel
theorem dX11_breakChain_31 : decode cX11_breakChain 31 = .ok (.istore_n 3, 1) := by decide +kernel
theorem dX11_breakChain_32 : decode cX11_breakChain 32 = .ok (.aload_n 0, 1) := by decide +kernel
theorem dX11_breakChain_33 : decode cX11_breakChain 33 = .ok (.getfield 71, 3) := by decide +kernel
theorem dX11_breakChain_36 : decode cX11_breakChain 36 = .ok (.iload_n 1, 1) := by decide +kernel
theorem dX11_breakChain_37 : decode cX11_breakChain 37 = .ok (.putfield 456, 3) := by decide +kernel
theorem dX11_breakChain_40 : decode cX11_breakChain 40 = .ok (.aload_n 0, 1) := by decide +kernel
theorem dX11_breakChain_41 : decode cX11_breakChain 41 = .ok (.getfield 71, 3) := by decide +kernel
theorem dX11_breakChain_44 : decode cX11_breakChain 44 = .ok (.iload_n 2, 1) := by decide +kernel
theorem dX11_breakChain_45 : decode cX11_breakChain 45 = .ok (.putfield 459, 3) := by decide +kernel
theorem dX11_breakChain_48 : decode cX11_breakChain 48 = .ok (.iload_n 3, 1) := by decide +kernel
theorem dX11_breakChain_49 : decode cX11_breakChain 49 = .ok (.ireturn, 1) := by decide +kernel
theorem dX11_breakChip_0 : decode cX11_breakChip 0 = .ok (.aload_n 0, 1) := by decide +kernel
theorem dX11_breakChip_1 : decode cX11_breakChip 1 = .ok (.iload_n 1, 1) := by decide +kernel
theorem dX11_breakChip_2 : decode cX11_breakChip 2 = .ok (.invokevirtual 319, 3) := by decide +kernel
theorem dX11_breakChip_5 : decode cX11_breakChip 5 = .ok (.aload_n 0, 1) := by decide +kernel
theorem dX11_breakChip_6 : decode cX11_breakChip 6 = .ok (.getfield 71, 3) := by decide +kernel
theorem dX11_breakChip_9 : decode cX11_breakChip 9 = .ok (.getfield 429, 3) := by decide +kernel
theorem dX11_breakChip_12 : decode cX11_breakChip 12 = .ok (.iconst 2, 1) := by decide +kernel
theorem dX11_breakChip_13 : decode cX11_breakChip 13 = .ok (.if_icmp .lt 11, 3) := by decide +kernel
theorem dX11_breakChip_16 : decode cX11_breakChip 16 = .ok (.new 141, 3) := by decide +kernel
theorem dX11_breakChip_19 : decode cX11_breakChip 19 = .ok (.dup, 1) := by decide +kernel
theorem dX11_breakChip_20 : decode cX11_breakChip 20 = .ok (.invokespecial 143, 3) := by decide +kernel
theorem dX11_breakChip_23 : decode cX11_breakChip 23 = .ok (.athrow, 1) := by decide +kernel
theorem dX11_breakChip_24 : decode cX11_breakChip 24 = .ok (.aload_n 0, 1) := by decide +kernel
theorem dX11_breakChip_25 : decode cX11_breakChip 25 = .ok (.getfield 71, 3) := by decide +kernel
theorem dX11_breakChip_28 : decode cX11_breakChip 28 = .ok (.iload_n 1, 1) := by decide +kernel
theorem dX11_breakChip_29 : decode cX11_breakChip 29 = .ok (.invokevirtual 432, 3) := by decide +kernel
theorem dX11_breakChip_32 : decode cX11_breakChip 32 = .ok (.ireturn, 1) := by decide +kernel
theorem dX11_bridge_0 : decode cX11_bridge 0 = .ok (.iload_n 1, 1) := by decide +kernel
theorem dX11_bridge_1 : decode cX11_bridge 1 = .ok (.bipush 119, 2) := by decide +kernel
theorem dX11_bridge_3 : decode cX11_bridge 3 = .ok (.if_icmp .eq 23, 3) := by decide +kernel
theorem dX11_bridge_6 : decode cX11_bridge 6 = .ok (.iload_n 1, 1) := by decide +kernel
theorem dX11_bridge_7 : decode cX11_bridge 7 = .ok (.bipush 117, 2) := by decide +kernel
theorem dX11_bridge_9 : decode cX11_bridge 9 = .ok (.if_icmp .eq 17, 3) := by decide +kernel
theorem dX11_bridge_12 : decode cX11_bridge 12 = .ok (.iload_n 1, 1) := by decide +kernel
theorem dX11_bridge_13 : decode cX11_bridge 13 = .ok (.bipush 100, 2) := by decide +kernel
theorem dX11_bridge_15 : decode cX11_bridge 15 = .ok (.if_icmp .eq 11, 3) := by decide +kernel
theorem dX11_bridge_18 : decode cX11_bridge 18 = .ok (.new 114, 3) := by decide +kernel
theorem dX11_bridge_21 : decode cX11_bridge 21 = .ok (.dup, 1) := by decide +kernel
theorem dX11_bridge_22 : decode cX11_bridge 22 = .ok (.invokespecial 116, 3) := by decide +kernel
theorem dX11_bridge_25 : decode cX11_bridge 25 = .ok (.athrow, 1) := by decide +kernel
theorem dX11_bridge_26 : decode cX11_bridge 26 = .ok (.aload_n 0, 1) := by decide +kernel
theorem dX11_bridge_27 : decode cX11_bridge 27 = .ok (.iload_n 2, 1) := by decide +kernel
theorem dX11_bridge_28 : decode cX11_bridge 28 = .ok (.invokevirtual 149, 3) := by decide +kernel
theorem dX11_bridge_31 : decode cX11_bridge 31 = .ok (.aload_n 0, 1) := by decide +kernel
theorem dX11_bridge_32 : decode cX11_bridge 32 = .ok (.iload_n 3, 1) := by decide +kernel
theorem dX11_bridge_33 : decode cX11_bridge 33 = .ok (.invokevirtual 149, 3) := by decide +kernel
theorem dX11_bridge_36 : decode cX11_bridge 36 = .ok (.aload_n 0, 1) := by decide +kernel
theorem dX11_bridge_37 : decode cX11_bridge 37 = .ok (.invokevirtual 177, 3) := by decide +kernel
theorem dX11_bridge_40 : decode cX11_bridge 40 = .ok (.aload_n 0, 1) := by decide +kernel
theorem dX11_bridge_41 : decode cX11_bridge 41 = .ok (.getfield 10, 3) := by decide +kernel
theorem dX11_bridge_44 : decode cX11_bridge 44 = .ok (.iload_n 2, 1) := by decide +kernel
theorem dX11_bridge_45 : decode cX11_bridge 45 = .ok (.iload_n 3, 1) := by decide +kernel
theorem dX11_bridge_46 : decode cX11_bridge 46 = .ok (.invokevirtual 228, 3) := by decide +kernel
theorem dX11_bridge_49 : decode cX11_bridge 49 = .ok (.ifCond .ne 15, 3) := by decide +kernel
theorem dX11_bridge_52 : decode cX11_bridge 52 = .ok (.aload_n 0, 1) := by decide +kernel
theorem dX11_bridge_53 : decode cX11_bridge 53 = .ok (.getfield 10, 3) := by decide +kernel
theorem dX11_bridge_56 : decode cX11_bridge 56 = .ok (.iload_n 3, 1) := by decide +kernel
theorem dX11_bridge_57 : decode cX11_bridge 57 = .ok (.iload_n 2, 1) := by decide +kernel
theorem dX11_bridge_58 : decode cX11_bridge 58 = .ok (.invokevirtual 228, 3) := by decide +kernel
theorem dX11_bridge_61 : decode cX11_bridge 61 = .ok (.ifCond .eq 11, 3) := by decide +kernel
theorem dX11_bridge_64 : decode cX11_bridge 64 = .ok (.new 125, 3) := by decide +kernel
theorem dX11_bridge_67 : decode cX11_bridge 67 = .ok (.dup, 1) := by decide +kernel
theorem dX11_bridge_68 : decode cX11_bridge 68 = .ok (.invokespecial 127, 3) := by decide +kernel
theorem dX11_bridge_71 : decode cX11_bridge 71 = .ok (.athrow, 1) := by decide +kernel
theorem dX11_bridge_72 : decode cX11_bridge 72 = .ok (.aload_n 0, 1) := by decide +kernel
theorem dX11_bridge_73 : decode cX11_bridge 73 = .ok (.getfield 21, 3) := by decide +kernel
theorem dX11_bridge_76 : decode cX11_bridge 76 = .ok (.getfield 232, 3) := by decide +kernel
theorem dX11_bridge_79 : decode cX11_bridge 79 = .ok (.bipush 8, 2) := by decide +kernel
theorem dX11_bridge_81 : decode cX11_bridge 81 = .ok (.if_icmp .lt 11, 3) := by decide +kernel
theorem dX11_bridge_84 : decode cX11_bridge 84 = .ok (.new 141, 3) := by decide +kernel
theorem dX11_bridge_87 : decode cX11_bridge 87 = .ok (.dup, 1) := by decide +kernel
theorem dX11_bridge_88 : decode cX11_bridge 88 = .ok (.invokespecial 143, 3) := by decide +kernel
theorem dX11_bridge_91 : decode cX11_bridge 91 = .ok (.athrow, 1) := by decide +kernel
theorem dX11_bridge_92 : decode cX11_bridge 92 = .ok (.aload_n 0, 1) := by decide +kernel
theorem dX11_bridge_93 : decode cX11_bridge 93 = .ok (.getfield 21, 3) := by decide +kernel
theorem dX11_bridge_96 : decode cX11_bridge 96 = .ok (.iload_n 1, 1) := by decide +kernel
theorem dX11_bridge_97 : decode cX11_bridge 97 = .ok (.iload_n 2, 1) := by decide +kernel
theorem dX11_bridge_98 : decode cX11_bridge 98 = .ok (.iload_n 3, 1) := by decide +kernel
theorem dX11_bridge_99 : decode cX11_bridge 99 = .ok (.invokevirtual 235, 3) := by decide +kernel
theorem dX11_bridge_102 : decode cX11_bridge 102 = .ok (.ireturn, 1) := by decide +kernel
theorem dX11_candidate_0 : decode cX11_candidate 0 = .ok (.aload_n 0, 1) := by decide +kernel
theorem dX11_candidate_1 : decode cX11_candidate 1 = .ok (.getfield 71, 3) := by decide +kernel
theorem dX11_candidate_4 : decode cX11_candidate 4 = .ok (.invokevirtual 438, 3) := by decide +kernel
theorem dX11_candidate_7 : decode cX11_candidate 7 = .ok (.aload_n 0, 1) := by decide +kernel
theorem dX11_candidate_8 : decode cX11_candidate 8 = .ok (.getfield 71, 3) := by decide +kernel
theorem dX11_candidate_11 : decode cX11_candidate 11 = .ok (.iload_n 1, 1) := by decide +kernel
theorem dX11_candidate_12 : decode cX11_candidate 12 = .ok (.invokevirtual 441, 3) := by decide +kernel
theorem dX11_candidate_15 : decode cX11_candidate 15 = .ok (.istore_n 2, 1) := by decide +kernel
theorem dX11_candidate_16 : decode cX11_candidate 16 = .ok (.iload_n 2, 1) := by decide +kernel
theorem dX11_candidate_17 : decode cX11_candidate 17 = .ok (.ifCond .ge 11, 3) := by decide +kernel
theorem dX11_candidate_20 : decode cX11_candidate 20 = .ok (.new 310, 3) := by decide +kernel
theorem dX11_candidate_23 : decode cX11_candidate 23 = .ok (.dup, 1) := by decide +kernel
theorem dX11_candidate_24 : decode cX11_candidate 24 = .ok (.invokespecial 312, 3) := by decide +kernel
theorem dX11_candidate_27 : decode cX11_candidate 27 = .ok (.athrow, 1) := by decide +kernel
theorem dX11_candidate_28 : decode cX11_candidate 28 = .ok (.iload_n 2, 1) := by decide +kernel
theorem dX11_candidate_29 : decode cX11_candidate 29 = .ok (.ireturn, 1) := by decide +kernel
theorem dX11_cell_0 : decode cX11_cell 0 = .ok (.aload_n 0, 1) := by decide +kernel
theorem dX11_cell_1 : decode cX11_cell 1 = .ok (.iconst 1, 1) := by decide +kernel
theorem dX11_cell_2 : decode cX11_cell 2 = .ok (.invokevirtual 131, 3) := by decide +kernel
theorem dX11_cell_5 : decode cX11_cell 5 = .ok (.ireturn, 1) := by decide +kernel
theorem dX11_chance_0 : decode cX11_chance 0 = .ok (.iload_n 1, 1) := by decide +kernel
theorem dX11_chance_1 : decode cX11_chance 1 = .ok (.iconst 0, 1) := by decide +kernel
theorem dX11_chance_2 : decode cX11_chance 2 = .ok (.ldc_w 399, 3) := by decide +kernel
theorem dX11_chance_5 : decode cX11_chance 5 = .ok (.invokestatic 361, 3) := by decide +kernel
theorem dX11_chance_8 : decode cX11_chance 8 = .ok (.iload_n 2, 1) := by decide +kernel
theorem dX11_chance_9 : decode cX11_chance 9 = .ok (.iconst 1, 1) := by decide +kernel
theorem dX11_chance_10 : decode cX11_chance 10 = .ok (.sipush 200, 3) := by decide +kernel
theorem dX11_chance_13 : decode cX11_chance 13 = .ok (.invokestatic 361, 3) := by decide +kernel
theorem dX11_chance_16 : decode cX11_chance 16 = .ok (.aload_n 0, 1) := by decide +kernel
theorem dX11_chance_17 : decode cX11_chance 17 = .ok (.invokevirtual 177, 3) := by decide +kernel
theorem dX11_chance_20 : decode cX11_chance 20 = .ok (.aload_n 0, 1) := by decide +kernel
theorem dX11_chance_21 : decode cX11_chance 21 = .ok (.getfield 37, 3) := by decide +kernel
theorem dX11_chance_24 : decode cX11_chance 24 = .ok (.getfield 280, 3) := by decide +kernel
theorem dX11_chance_27 : decode cX11_chance 27 = .ok (.lconst 0, 1) := by decide +kernel
theorem dX11_chance_28 : decode cX11_chance 28 = .ok (.invokestatic 284, 3) := by decide +kernel
theorem dX11_chance_31 : decode cX11_chance 31 = .ok (.iload_n 1, 1) := by decide +kernel
theorem dX11_chance_32 : decode cX11_chance 32 = .ok (.aload_n 0, 1) := by decide +kernel
theorem dX11_chance_33 : decode cX11_chance 33 = .ok (.getfield 62, 3) := by decide +kernel
theorem dX11_chance_36 : decode cX11_chance 36 = .ok (.invokevirtual 400, 3) := by decide +kernel
theorem dX11_chance_39 : decode cX11_chance 39 = .ok (.iand, 1) := by decide +kernel
theorem dX11_chance_40 : decode cX11_chance 40 = .ok (.istore_n 3, 1) := by decide +kernel
theorem dX11_chance_41 : decode cX11_chance 41 = .ok (.iconst 0, 1) := by decide +kernel
theorem dX11_chance_42 : decode cX11_chance 42 = .ok (.istore 4, 2) := by decide +kernel
theorem dX11_chance_44 : decode cX11_chance 44 = .ok (.iload 4, 2) := by decide +kernel
theorem dX11_chance_46 : decode cX11_chance 46 = .ok (.iload_n 2, 1) := by decide +kernel
theorem dX11_chance_47 : decode cX11_chance 47 = .ok (.if_icmp .ge 86, 3) := by decide +kernel
theorem dX11_chance_50 : decode cX11_chance 50 = .ok (.aload_n 0, 1) := by decide +kernel
theorem dX11_chance_51 : decode cX11_chance 51 = .ok (.iload_n 3, 1) := by decide +kernel
theorem dX11_chance_52 : decode cX11_chance 52 = .ok (.bipush 64, 2) := by decide +kernel
theorem dX11_chance_54 : decode cX11_chance 54 = .ok (.iload_n 2, 1) := by decide +kernel
theorem dX11_chance_55 : decode cX11_chance 55 = .ok (.iload 4, 2) := by decide +kernel
theorem dX11_chance_57 : decode cX11_chance 57 = .ok (.isub, 1) := by decide +kernel
theorem dX11_chance_58 : decode cX11_chance 58 = .ok (.invokestatic 403, 3) := by decide +kernel
theorem dX11_chance_61 : decode cX11_chance 61 = .ok (.invokevirtual 408, 3) := by decide +kernel
theorem dX11_chance_64 : decode cX11_chance 64 = .ok (.istore_n 3, 1) := by decide +kernel
theorem dX11_chance_65 : decode cX11_chance 65 = .ok (.aload_n 0, 1) := by decide +kernel
theorem dX11_chance_66 : decode cX11_chance 66 = .ok (.getfield 37, 3) := by decide +kernel
theorem dX11_chance_69 : decode cX11_chance 69 = .ok (.invokevirtual 381, 3) := by decide +kernel
theorem dX11_chance_72 : decode cX11_chance 72 = .ok (.iconst 0, 1) := by decide +kernel
theorem dX11_chance_73 : decode cX11_chance 73 = .ok (.istore 5, 2) := by decide +kernel
theorem dX11_chance_75 : decode cX11_chance 75 = .ok (.iload 5, 2) := by decide +kernel
theorem dX11_chance_77 : decode cX11_chance 77 = .ok (.aload_n 0, 1) := by decide +kernel
theorem dX11_chance_78 : decode cX11_chance 78 = .ok (.getfield 21, 3) := by decide +kernel
theorem dX11_chance_81 : decode cX11_chance 81 = .ok (.getfield 111, 3) := by decide +kernel
theorem dX11_chance_84 : decode cX11_chance 84 = .ok (.if_icmp .ge 43, 3) := by decide +kernel
theorem dX11_chance_87 : decode cX11_chance 87 = .ok (.aload_n 0, 1) := by decide +kernel
theorem dX11_chance_88 : decode cX11_chance 88 = .ok (.getfield 21, 3) := by decide +kernel
theorem dX11_chance_91 : decode cX11_chance 91 = .ok (.iload 5, 2) := by decide +kernel
theorem dX11_chance_93 : decode cX11_chance 93 = .ok (.invokevirtual 294, 3) := by decide +kernel
theorem dX11_chance_96 : decode cX11_chance 96 = .ok (.ifCond .eq 25, 3) := by decide +kernel
theorem dX11_chance_99 : decode cX11_chance 99 = .ok (.aload_n 0, 1) := by decide +kernel
theorem dX11_chance_100 : decode cX11_chance 100 = .ok (.getfield 37, 3) := by decide +kernel
theorem dX11_chance_103 : decode cX11_chance 103 = .ok (.getfield 280, 3) := by decide +kernel
theorem dX11_chance_106 : decode cX11_chance 106 = .ok (.iload 5, 2) := by decide +kernel
theorem dX11_chance_108 : decode cX11_chance 108 = .ok (.dup2, 1) := by decide +kernel
theorem dX11_chance_109 : decode cX11_chance 109 = .ok (.laload, 1) := by decide +kernel
theorem dX11_chance_110 : decode cX11_chance 110 = .ok (.aload_n 0, 1) := by decide +kernel
theorem dX11_chance_111 : decode cX11_chance 111 = .ok (.getfield 37, 3) := by decide +kernel
theorem dX11_chance_114 : decode cX11_chance 114 = .ok (.iload 5, 2) := by decide +kernel
theorem dX11_chance_116 : decode cX11_chance 116 = .ok (.invokevirtual 383, 3) := by decide +kernel
theorem dX11_chance_119 : decode cX11_chance 119 = .ok (.lor, 1) := by decide +kernel
theorem dX11_chance_120 : decode cX11_chance 120 = .ok (.lastore, 1) := by decide +kernel
theorem dX11_chance_121 : decode cX11_chance 121 = .ok (.iinc 5 1, 3) := by decide +kernel
theorem dX11_chance_124 : decode cX11_chance 124 = .ok (.goto (-49), 3) := by decide +kernel
theorem dX11_chance_127 : decode cX11_chance 127 = .ok (.iinc 4 64, 3) := by decide +kernel
theorem dX11_chance_130 : decode cX11_chance 130 = .ok (.goto (-86), 3) := by decide +kernel
theorem dX11_chance_133 : decode cX11_chance 133 = .ok (.aload_n 0, 1) := by decide +kernel
theorem dX11_chance_134 : decode cX11_chance 134 = .ok (.invokevirtual 273, 3) := by decide +kernel
theorem dX11_chance_137 : decode cX11_chance 137 = .ok (.ireturn, 1) := by decide +kernel
theorem dX11_classes_0 : decode cX11_classes 0 = .ok (.aload_n 0, 1) := by decide +kernel
theorem dX11_classes_1 : decode cX11_classes 1 = .ok (.getfield 21, 3) := by decide +kernel
theorem dX11_classes_4 : decode cX11_classes 4 = .ok (.invokevirtual 225, 3) := by decide +kernel
theorem dX11_classes_7 : decode cX11_classes 7 = .ok (.ireturn, 1) := by decide +kernel
theorem dX11_close_0 : decode cX11_close 0 = .ok (.aload_n 0, 1) := by decide +kernel
theorem dX11_close_1 : decode cX11_close 1 = .ok (.invokevirtual 135, 3) := by decide +kernel
theorem dX11_close_4 : decode cX11_close 4 = .ok (.aload_n 0, 1) := by decide +kernel
theorem dX11_close_5 : decode cX11_close 5 = .ok (.getfield 10, 3) := by decide +kernel
theorem dX11_close_8 : decode cX11_close 8 = .ok (.invokevirtual 167, 3) := by decide +kernel
theorem dX11_close_11 : decode cX11_close 11 = .ok (.ifCond .ne 11, 3) := by decide +kernel
theorem dX11_close_14 : decode cX11_close 14 = .ok (.new 125, 3) := by decide +kernel
theorem dX11_close_17 : decode cX11_close 17 = .ok (.dup, 1) := by decide +kernel
theorem dX11_close_18 : decode cX11_close 18 = .ok (.invokespecial 127, 3) := by decide +kernel
theorem dX11_close_21 : decode cX11_close 21 = .ok (.athrow, 1) := by decide +kernel
theorem dX11_close_22 : decode cX11_close 22 = .ok (.aload_n 0, 1) := by decide +kernel
theorem dX11_close_23 : decode cX11_close 23 = .ok (.getfield 10, 3) := by decide +kernel
theorem dX11_close_26 : decode cX11_close 26 = .ok (.invokevirtual 171, 3) := by decide +kernel
theorem dX11_close_29 : decode cX11_close 29 = .ok (.aload_n 0, 1) := by decide +kernel
theorem dX11_close_30 : decode cX11_close 30 = .ok (.getfield 21, 3) := by decide +kernel
theorem dX11_close_33 : decode cX11_close 33 = .ok (.invokevirtual 174, 3) := by decide +kernel
theorem dX11_close_36 : decode cX11_close 36 = .ok (.aload_n 0, 1) := by decide +kernel
theorem dX11_close_37 : decode cX11_close 37 = .ok (.getfield 21, 3) := by decide +kernel
theorem dX11_close_40 : decode cX11_close 40 = .ok (.getfield 111, 3) := by decide +kernel
theorem dX11_close_43 : decode cX11_close 43 = .ok (.ireturn, 1) := by decide +kernel
theorem dX11_core_0 : decode cX11_core 0 = .ok (.iload_n 1, 1) := by decide +kernel
theorem dX11_core_1 : decode cX11_core 1 = .ok (.iconst 1, 1) := by decide +kernel
theorem dX11_core_2 : decode cX11_core 2 = .ok (.sipush 999, 3) := by decide +kernel
theorem dX11_core_5 : decode cX11_core 5 = .ok (.invokestatic 361, 3) := by decide +kernel
theorem dX11_core_8 : decode cX11_core 8 = .ok (.iload_n 2, 1) := by decide +kernel
theorem dX11_core_9 : decode cX11_core 9 = .ok (.iconst 1, 1) := by decide +kernel
theorem dX11_core_10 : decode cX11_core 10 = .ok (.bipush 64, 2) := by decide +kernel
theorem dX11_core_12 : decode cX11_core 12 = .ok (.invokestatic 361, 3) := by decide +kernel
theorem dX11_core_15 : decode cX11_core 15 = .ok (.iload_n 3, 1) := by decide +kernel
theorem dX11_core_16 : decode cX11_core 16 = .ok (.iconst 0, 1) := by decide +kernel
theorem dX11_core_17 : decode cX11_core 17 = .ok (.sipush 999, 3) := by decide +kernel
theorem dX11_core_20 : decode cX11_core 20 = .ok (.invokestatic 361, 3) := by decide +kernel
theorem dX11_core_23 : decode cX11_core 23 = .ok (.aload_n 0, 1) := by decide +kernel
theorem dX11_core_24 : decode cX11_core 24 = .ok (.getfield 92, 3) := by decide +kernel
theorem dX11_core_27 : decode cX11_core 27 = .ok (.getfield 535, 3) := by decide +kernel
theorem dX11_core_30 : decode cX11_core 30 = .ok (.bipush 6, 2) := by decide +kernel
theorem dX11_core_32 : decode cX11_core 32 = .ok (.if_icmp .lt 11, 3) := by decide +kernel
theorem dX11_core_35 : decode cX11_core 35 = .ok (.new 141, 3) := by decide +kernel
theorem dX11_core_38 : decode cX11_core 38 = .ok (.dup, 1) := by decide +kernel
theorem dX11_core_39 : decode cX11_core 39 = .ok (.invokespecial 143, 3) := by decide +kernel
theorem dX11_core_42 : decode cX11_core 42 = .ok (.athrow, 1) := by decide +kernel
theorem dX11_core_43 : decode cX11_core 43 = .ok (.aload_n 0, 1) := by decide +kernel
theorem dX11_core_44 : decode cX11_core 44 = .ok (.getfield 92, 3) := by decide +kernel
theorem dX11_core_47 : decode cX11_core 47 = .ok (.iload_n 1, 1) := by decide +kernel
theorem dX11_core_48 : decode cX11_core 48 = .ok (.iload_n 2, 1) := by decide +kernel
theorem dX11_core_49 : decode cX11_core 49 = .ok (.iload_n 3, 1) := by decide +kernel
theorem dX11_core_50 : decode cX11_core 50 = .ok (.invokevirtual 536, 3) := by decide +kernel
theorem dX11_core_53 : decode cX11_core 53 = .ok (.ireturn, 1) := by decide +kernel
theorem dX11_foldObserved_0 : decode cX11_foldObserved 0 = .ok (.iconst 0, 1) := by decide +kernel
theorem dX11_foldObserved_1 : decode cX11_foldObserved 1 = .ok (.istore_n 1, 1) := by decide +kernel
theorem dX11_foldObserved_2 : decode cX11_foldObserved 2 = .ok (.iconst 0, 1) := by decide +kernel
theorem dX11_foldObserved_3 : decode cX11_foldObserved 3 = .ok (.istore_n 2, 1) := by decide +kernel
theorem dX11_foldObserved_4 : decode cX11_foldObserved 4 = .ok (.iload_n 2, 1) := by decide +kernel
theorem dX11_foldObserved_5 : decode cX11_foldObserved 5 = .ok (.aload_n 0, 1) := by decide +kernel
theorem dX11_foldObserved_6 : decode cX11_foldObserved 6 = .ok (.getfield 28, 3) := by decide +kernel
theorem dX11_foldObserved_9 : decode cX11_foldObserved 9 = .ok (.getfield 103, 3) := by decide +kernel
theorem dX11_foldObserved_12 : decode cX11_foldObserved 12 = .ok (.if_icmp .ge 89, 3) := by decide +kernel
theorem dX11_foldObserved_15 : decode cX11_foldObserved 15 = .ok (.aload_n 0, 1) := by decide +kernel
theorem dX11_foldObserved_16 : decode cX11_foldObserved 16 = .ok (.getfield 62, 3) := by decide +kernel
theorem dX11_foldObserved_19 : decode cX11_foldObserved 19 = .ok (.iload_n 1, 1) := by decide +kernel
theorem dX11_foldObserved_20 : decode cX11_foldObserved 20 = .ok (.invokevirtual 390, 3) := by decide +kernel
theorem dX11_foldObserved_23 : decode cX11_foldObserved 23 = .ok (.istore_n 1, 1) := by decide +kernel
theorem dX11_foldObserved_24 : decode cX11_foldObserved 24 = .ok (.iconst 0, 1) := by decide +kernel
theorem dX11_foldObserved_25 : decode cX11_foldObserved 25 = .ok (.istore_n 3, 1) := by decide +kernel
theorem dX11_foldObserved_26 : decode cX11_foldObserved 26 = .ok (.iconst 0, 1) := by decide +kernel
theorem dX11_foldObserved_27 : decode cX11_foldObserved 27 = .ok (.istore 4, 2) := by decide +kernel
theorem dX11_foldObserved_29 : decode cX11_foldObserved 29 = .ok (.iload 4, 2) := by decide +kernel
theorem dX11_foldObserved_31 : decode cX11_foldObserved 31 = .ok (.aload_n 0, 1) := by decide +kernel
theorem dX11_foldObserved_32 : decode cX11_foldObserved 32 = .ok (.getfield 10, 3) := by decide +kernel
theorem dX11_foldObserved_35 : decode cX11_foldObserved 35 = .ok (.getfield 189, 3) := by decide +kernel
theorem dX11_foldObserved_38 : decode cX11_foldObserved 38 = .ok (.if_icmp .ge 57, 3) := by decide +kernel
theorem dX11_foldObserved_41 : decode cX11_foldObserved 41 = .ok (.iload_n 1, 1) := by decide +kernel
theorem dX11_foldObserved_42 : decode cX11_foldObserved 42 = .ok (.aload_n 0, 1) := by decide +kernel
theorem dX11_foldObserved_43 : decode cX11_foldObserved 43 = .ok (.getfield 37, 3) := by decide +kernel
theorem dX11_foldObserved_46 : decode cX11_foldObserved 46 = .ok (.aload_n 0, 1) := by decide +kernel
theorem dX11_foldObserved_47 : decode cX11_foldObserved 47 = .ok (.getfield 10, 3) := by decide +kernel
theorem dX11_foldObserved_50 : decode cX11_foldObserved 50 = .ok (.getfield 393, 3) := by decide +kernel
theorem dX11_foldObserved_53 : decode cX11_foldObserved 53 = .ok (.iload 4, 2) := by decide +kernel
theorem dX11_foldObserved_55 : decode cX11_foldObserved 55 = .ok (.iaload, 1) := by decide +kernel
theorem dX11_foldObserved_56 : decode cX11_foldObserved 56 = .ok (.invokevirtual 396, 3) := by decide +kernel
theorem dX11_foldObserved_59 : decode cX11_foldObserved 59 = .ok (.iload_n 2, 1) := by decide +kernel
theorem dX11_foldObserved_60 : decode cX11_foldObserved 60 = .ok (.lshr, 1) := by decide +kernel
theorem dX11_foldObserved_61 : decode cX11_foldObserved 61 = .ok (.lconst 1, 1) := by decide +kernel
theorem dX11_foldObserved_62 : decode cX11_foldObserved 62 = .ok (.land, 1) := by decide +kernel
theorem dX11_foldObserved_63 : decode cX11_foldObserved 63 = .ok (.l2i, 1) := by decide +kernel
theorem dX11_foldObserved_64 : decode cX11_foldObserved 64 = .ok (.iload_n 3, 1) := by decide +kernel
theorem dX11_foldObserved_65 : decode cX11_foldObserved 65 = .ok (.ishl, 1) := by decide +kernel
theorem dX11_foldObserved_66 : decode cX11_foldObserved 66 = .ok (.ixor, 1) := by decide +kernel
theorem dX11_foldObserved_67 : decode cX11_foldObserved 67 = .ok (.istore_n 1, 1) := by decide +kernel
theorem dX11_foldObserved_68 : decode cX11_foldObserved 68 = .ok (.iload_n 3, 1) := by decide +kernel
theorem dX11_foldObserved_69 : decode cX11_foldObserved 69 = .ok (.iconst 1, 1) := by decide +kernel
theorem dX11_foldObserved_70 : decode cX11_foldObserved 70 = .ok (.iadd, 1) := by decide +kernel
theorem dX11_foldObserved_71 : decode cX11_foldObserved 71 = .ok (.aload_n 0, 1) := by decide +kernel
theorem dX11_foldObserved_72 : decode cX11_foldObserved 72 = .ok (.getfield 62, 3) := by decide +kernel
theorem dX11_foldObserved_75 : decode cX11_foldObserved 75 = .ok (.getfield 365, 3) := by decide +kernel
theorem dX11_foldObserved_78 : decode cX11_foldObserved 78 = .ok (.if_icmp .ge 9, 3) := by decide +kernel
theorem dX11_foldObserved_81 : decode cX11_foldObserved 81 = .ok (.iload_n 3, 1) := by decide +kernel
theorem dX11_foldObserved_82 : decode cX11_foldObserved 82 = .ok (.iconst 1, 1) := by decide +kernel
theorem dX11_foldObserved_83 : decode cX11_foldObserved 83 = .ok (.iadd, 1) := by decide +kernel
theorem dX11_foldObserved_84 : decode cX11_foldObserved 84 = .ok (.goto 4, 3) := by decide +kernel
theorem dX11_foldObserved_87 : decode cX11_foldObserved 87 = .ok (.iconst 0, 1) := by decide +kernel
theorem dX11_foldObserved_88 : decode cX11_foldObserved 88 = .ok (.istore_n 3, 1) := by decide +kernel
theorem dX11_foldObserved_89 : decode cX11_foldObserved 89 = .ok (.iinc 4 1, 3) := by decide +kernel
theorem dX11_foldObserved_92 : decode cX11_foldObserved 92 = .ok (.goto (-63), 3) := by decide +kernel
theorem dX11_foldObserved_95 : decode cX11_foldObserved 95 = .ok (.iinc 2 1, 3) := by decide +kernel
theorem dX11_foldObserved_98 : decode cX11_foldObserved 98 = .ok (.goto (-94), 3) := by decide +kernel
theorem dX11_foldObserved_101 : decode cX11_foldObserved 101 = .ok (.iload_n 1, 1) := by decide +kernel
theorem dX11_foldObserved_102 : decode cX11_foldObserved 102 = .ok (.ireturn, 1) := by decide +kernel
theorem dX11_needClosedNet_0 : decode cX11_needClosedNet 0 = .ok (.aload_n 0, 1) := by decide +kernel
theorem dX11_needClosedNet_1 : decode cX11_needClosedNet 1 = .ok (.getfield 10, 3) := by decide +kernel
theorem dX11_needClosedNet_4 : decode cX11_needClosedNet 4 = .ok (.getfield 121, 3) := by decide +kernel
theorem dX11_needClosedNet_7 : decode cX11_needClosedNet 7 = .ok (.ifCond .ne 11, 3) := by decide +kernel
theorem dX11_needClosedNet_10 : decode cX11_needClosedNet 10 = .ok (.new 125, 3) := by decide +kernel
theorem dX11_needClosedNet_13 : decode cX11_needClosedNet 13 = .ok (.dup, 1) := by decide +kernel
theorem dX11_needClosedNet_14 : decode cX11_needClosedNet 14 = .ok (.invokespecial 127, 3) := by decide +kernel
theorem dX11_needClosedNet_17 : decode cX11_needClosedNet 17 = .ok (.athrow, 1) := by decide +kernel
theorem dX11_needClosedNet_18 : decode cX11_needClosedNet 18 = .ok (.return_, 1) := by decide +kernel
theorem dX11_needCode_0 : decode cX11_needCode 0 = .ok (.iload_n 1, 1) := by decide +kernel
theorem dX11_needCode_1 : decode cX11_needCode 1 = .ok (.bipush 99, 2) := by decide +kernel
theorem dX11_needCode_3 : decode cX11_needCode 3 = .ok (.if_icmp .eq 17, 3) := by decide +kernel
theorem dX11_needCode_6 : decode cX11_needCode 6 = .ok (.iload_n 1, 1) := by decide +kernel
theorem dX11_needCode_7 : decode cX11_needCode 7 = .ok (.bipush 116, 2) := by decide +kernel
theorem dX11_needCode_9 : decode cX11_needCode 9 = .ok (.if_icmp .eq 11, 3) := by decide +kernel
theorem dX11_needCode_12 : decode cX11_needCode 12 = .ok (.new 114, 3) := by decide +kernel
theorem dX11_needCode_15 : decode cX11_needCode 15 = .ok (.dup, 1) := by decide +kernel
theorem dX11_needCode_16 : decode cX11_needCode 16 = .ok (.invokespecial 116, 3) := by decide +kernel
theorem dX11_needCode_19 : decode cX11_needCode 19 = .ok (.athrow, 1) := by decide +kernel
theorem dX11_needCode_20 : decode cX11_needCode 20 = .ok (.return_, 1) := by decide +kernel
theorem dX11_needFault_0 : decode cX11_needFault 0 = .ok (.iload_n 1, 1) := by decide +kernel
theorem dX11_needFault_1 : decode cX11_needFault 1 = .ok (.ifCond .lt 14, 3) := by decide +kernel
theorem dX11_needFault_4 : decode cX11_needFault 4 = .ok (.iload_n 1, 1) := by decide +kernel
theorem dX11_needFault_5 : decode cX11_needFault 5 = .ok (.aload_n 0, 1) := by decide +kernel
theorem dX11_needFault_6 : decode cX11_needFault 6 = .ok (.getfield 21, 3) := by decide +kernel
theorem dX11_needFault_9 : decode cX11_needFault 9 = .ok (.getfield 106, 3) := by decide +kernel
theorem dX11_needFault_12 : decode cX11_needFault 12 = .ok (.if_icmp .lt 11, 3) := by decide +kernel
theorem dX11_needFault_15 : decode cX11_needFault 15 = .ok (.new 100, 3) := by decide +kernel
theorem dX11_needFault_18 : decode cX11_needFault 18 = .ok (.dup, 1) := by decide +kernel
theorem dX11_needFault_19 : decode cX11_needFault 19 = .ok (.invokespecial 102, 3) := by decide +kernel
theorem dX11_needFault_22 : decode cX11_needFault 22 = .ok (.athrow, 1) := by decide +kernel
theorem dX11_needFault_23 : decode cX11_needFault 23 = .ok (.return_, 1) := by decide +kernel
theorem dX11_needLine_0 : decode cX11_needLine 0 = .ok (.iload_n 1, 1) := by decide +kernel
theorem dX11_needLine_1 : decode cX11_needLine 1 = .ok (.ifCond .lt 14, 3) := by decide +kernel
theorem dX11_needLine_4 : decode cX11_needLine 4 = .ok (.iload_n 1, 1) := by decide +kernel
theorem dX11_needLine_5 : decode cX11_needLine 5 = .ok (.aload_n 0, 1) := by decide +kernel
theorem dX11_needLine_6 : decode cX11_needLine 6 = .ok (.getfield 10, 3) := by decide +kernel
theorem dX11_needLine_9 : decode cX11_needLine 9 = .ok (.getfield 96, 3) := by decide +kernel
theorem dX11_needLine_12 : decode cX11_needLine 12 = .ok (.if_icmp .lt 11, 3) := by decide +kernel
theorem dX11_needLine_15 : decode cX11_needLine 15 = .ok (.new 100, 3) := by decide +kernel
theorem dX11_needLine_18 : decode cX11_needLine 18 = .ok (.dup, 1) := by decide +kernel
theorem dX11_needLine_19 : decode cX11_needLine 19 = .ok (.invokespecial 102, 3) := by decide +kernel
theorem dX11_needLine_22 : decode cX11_needLine 22 = .ok (.athrow, 1) := by decide +kernel
theorem dX11_needLine_23 : decode cX11_needLine 23 = .ok (.return_, 1) := by decide +kernel
theorem dX11_needOpenNet_0 : decode cX11_needOpenNet 0 = .ok (.aload_n 0, 1) := by decide +kernel
theorem dX11_needOpenNet_1 : decode cX11_needOpenNet 1 = .ok (.getfield 10, 3) := by decide +kernel
theorem dX11_needOpenNet_4 : decode cX11_needOpenNet 4 = .ok (.getfield 121, 3) := by decide +kernel
theorem dX11_needOpenNet_7 : decode cX11_needOpenNet 7 = .ok (.ifCond .eq 11, 3) := by decide +kernel
theorem dX11_needOpenNet_10 : decode cX11_needOpenNet 10 = .ok (.new 125, 3) := by decide +kernel
theorem dX11_needOpenNet_13 : decode cX11_needOpenNet 13 = .ok (.dup, 1) := by decide +kernel
theorem dX11_needOpenNet_14 : decode cX11_needOpenNet 14 = .ok (.invokespecial 127, 3) := by decide +kernel
theorem dX11_needOpenNet_17 : decode cX11_needOpenNet 17 = .ok (.athrow, 1) := by decide +kernel
theorem dX11_needOpenNet_18 : decode cX11_needOpenNet 18 = .ok (.return_, 1) := by decide +kernel
theorem dX11_needRange_0 : decode cX11_needRange 0 = .ok (.iload_n 0, 1) := by decide +kernel
theorem dX11_needRange_1 : decode cX11_needRange 1 = .ok (.iload_n 1, 1) := by decide +kernel
theorem dX11_needRange_2 : decode cX11_needRange 2 = .ok (.if_icmp .lt 8, 3) := by decide +kernel
theorem dX11_needRange_5 : decode cX11_needRange 5 = .ok (.iload_n 0, 1) := by decide +kernel
theorem dX11_needRange_6 : decode cX11_needRange 6 = .ok (.iload_n 2, 1) := by decide +kernel
theorem dX11_needRange_7 : decode cX11_needRange 7 = .ok (.if_icmp .le 11, 3) := by decide +kernel
theorem dX11_needRange_10 : decode cX11_needRange 10 = .ok (.new 114, 3) := by decide +kernel
theorem dX11_needRange_13 : decode cX11_needRange 13 = .ok (.dup, 1) := by decide +kernel
theorem dX11_needRange_14 : decode cX11_needRange 14 = .ok (.invokespecial 116, 3) := by decide +kernel
theorem dX11_needRange_17 : decode cX11_needRange 17 = .ok (.athrow, 1) := by decide +kernel
theorem dX11_needRange_18 : decode cX11_needRange 18 = .ok (.return_, 1) := by decide +kernel
theorem dX11_needStuck_0 : decode cX11_needStuck 0 = .ok (.aload_n 0, 1) := by decide +kernel
theorem dX11_needStuck_1 : decode cX11_needStuck 1 = .ok (.iload_n 1, 1) := by decide +kernel
theorem dX11_needStuck_2 : decode cX11_needStuck 2 = .ok (.invokevirtual 107, 3) := by decide +kernel
theorem dX11_needStuck_5 : decode cX11_needStuck 5 = .ok (.iload_n 1, 1) := by decide +kernel
theorem dX11_needStuck_6 : decode cX11_needStuck 6 = .ok (.aload_n 0, 1) := by decide +kernel
theorem dX11_needStuck_7 : decode cX11_needStuck 7 = .ok (.getfield 21, 3) := by decide +kernel
theorem dX11_needStuck_10 : decode cX11_needStuck 10 = .ok (.getfield 111, 3) := by decide +kernel
theorem dX11_needStuck_13 : decode cX11_needStuck 13 = .ok (.if_icmp .lt 11, 3) := by decide +kernel
theorem dX11_needStuck_16 : decode cX11_needStuck 16 = .ok (.new 114, 3) := by decide +kernel
theorem dX11_needStuck_19 : decode cX11_needStuck 19 = .ok (.dup, 1) := by decide +kernel
theorem dX11_needStuck_20 : decode cX11_needStuck 20 = .ok (.invokespecial 116, 3) := by decide +kernel
theorem dX11_needStuck_23 : decode cX11_needStuck 23 = .ok (.athrow, 1) := by decide +kernel
theorem dX11_needStuck_24 : decode cX11_needStuck 24 = .ok (.return_, 1) := by decide +kernel
theorem dX1_candidateAt_0 : decode cX1_candidateAt 0 = .ok (.iconst 0, 1) := by decide +kernel
theorem dX1_candidateAt_1 : decode cX1_candidateAt 1 = .ok (.istore_n 2, 1) := by decide +kernel
theorem dX1_candidateAt_2 : decode cX1_candidateAt 2 = .ok (.iload_n 2, 1) := by decide +kernel
theorem dX1_candidateAt_3 : decode cX1_candidateAt 3 = .ok (.aload_n 0, 1) := by decide +kernel
theorem dX1_candidateAt_4 : decode cX1_candidateAt 4 = .ok (.getfield 39, 3) := by decide +kernel
theorem dX1_candidateAt_7 : decode cX1_candidateAt 7 = .ok (.getfield 82, 3) := by decide +kernel
theorem dX1_candidateAt_10 : decode cX1_candidateAt 10 = .ok (.if_icmp .ge 29, 3) := by decide +kernel
theorem dX1_candidateAt_13 : decode cX1_candidateAt 13 = .ok (.aload_n 0, 1) := by decide +kernel
theorem dX1_candidateAt_14 : decode cX1_candidateAt 14 = .ok (.getfield 19, 3) := by decide +kernel
theorem dX1_candidateAt_17 : decode cX1_candidateAt 17 = .ok (.iload_n 2, 1) := by decide +kernel
theorem dX1_candidateAt_18 : decode cX1_candidateAt 18 = .ok (.iaload, 1) := by decide +kernel
theorem dX1_candidateAt_19 : decode cX1_candidateAt 19 = .ok (.ifCond .le 14, 3) := by decide +kernel
theorem dX1_candidateAt_22 : decode cX1_candidateAt 22 = .ok (.aload_n 0, 1) := by decide +kernel
theorem dX1_candidateAt_23 : decode cX1_candidateAt 23 = .ok (.iload_n 2, 1) := by decide +kernel
theorem dX1_candidateAt_24 : decode cX1_candidateAt 24 = .ok (.invokevirtual 104, 3) := by decide +kernel
theorem dX1_candidateAt_27 : decode cX1_candidateAt 27 = .ok (.iload_n 1, 1) := by decide +kernel
theorem dX1_candidateAt_28 : decode cX1_candidateAt 28 = .ok (.if_icmp .ne 5, 3) := by decide +kernel
theorem dX1_candidateAt_31 : decode cX1_candidateAt 31 = .ok (.iload_n 2, 1) := by decide +kernel
theorem dX1_candidateAt_32 : decode cX1_candidateAt 32 = .ok (.ireturn, 1) := by decide +kernel
theorem dX1_candidateAt_33 : decode cX1_candidateAt 33 = .ok (.iinc 2 1, 3) := by decide +kernel
theorem dX1_candidateAt_36 : decode cX1_candidateAt 36 = .ok (.goto (-34), 3) := by decide +kernel
theorem dX1_candidateAt_39 : decode cX1_candidateAt 39 = .ok (.iconst (-1), 1) := by decide +kernel
theorem dX1_candidateAt_40 : decode cX1_candidateAt 40 = .ok (.ireturn, 1) := by decide +kernel
theorem dX1_compareAll_0 : decode cX1_compareAll 0 = .ok (.aload_n 0, 1) := by decide +kernel
theorem dX1_compareAll_1 : decode cX1_compareAll 1 = .ok (.invokevirtual 79, 3) := by decide +kernel
theorem dX1_compareAll_4 : decode cX1_compareAll 4 = .ok (.iconst 0, 1) := by decide +kernel
theorem dX1_compareAll_5 : decode cX1_compareAll 5 = .ok (.istore_n 1, 1) := by decide +kernel
theorem dX1_compareAll_6 : decode cX1_compareAll 6 = .ok (.iload_n 1, 1) := by decide +kernel
theorem dX1_compareAll_7 : decode cX1_compareAll 7 = .ok (.aload_n 0, 1) := by decide +kernel
theorem dX1_compareAll_8 : decode cX1_compareAll 8 = .ok (.getfield 39, 3) := by decide +kernel
theorem dX1_compareAll_11 : decode cX1_compareAll 11 = .ok (.getfield 82, 3) := by decide +kernel
theorem dX1_compareAll_14 : decode cX1_compareAll 14 = .ok (.if_icmp .ge 39, 3) := by decide +kernel
theorem dX1_compareAll_17 : decode cX1_compareAll 17 = .ok (.aload_n 0, 1) := by decide +kernel
theorem dX1_compareAll_18 : decode cX1_compareAll 18 = .ok (.getfield 19, 3) := by decide +kernel
theorem dX1_compareAll_21 : decode cX1_compareAll 21 = .ok (.iload_n 1, 1) := by decide +kernel
theorem dX1_compareAll_22 : decode cX1_compareAll 22 = .ok (.iconst 0, 1) := by decide +kernel
theorem dX1_compareAll_23 : decode cX1_compareAll 23 = .ok (.iastore, 1) := by decide +kernel
theorem dX1_compareAll_24 : decode cX1_compareAll 24 = .ok (.aload_n 0, 1) := by decide +kernel
theorem dX1_compareAll_25 : decode cX1_compareAll 25 = .ok (.getfield 22, 3) := by decide +kernel
theorem dX1_compareAll_28 : decode cX1_compareAll 28 = .ok (.iload_n 1, 1) := by decide +kernel
theorem dX1_compareAll_29 : decode cX1_compareAll 29 = .ok (.iconst 0, 1) := by decide +kernel
theorem dX1_compareAll_30 : decode cX1_compareAll 30 = .ok (.iastore, 1) := by decide +kernel
theorem dX1_compareAll_31 : decode cX1_compareAll 31 = .ok (.aload_n 0, 1) := by decide +kernel
theorem dX1_compareAll_32 : decode cX1_compareAll 32 = .ok (.getfield 39, 3) := by decide +kernel
theorem dX1_compareAll_35 : decode cX1_compareAll 35 = .ok (.iload_n 1, 1) := by decide +kernel
theorem dX1_compareAll_36 : decode cX1_compareAll 36 = .ok (.invokevirtual 87, 3) := by decide +kernel
theorem dX1_compareAll_39 : decode cX1_compareAll 39 = .ok (.ifCond .eq 8, 3) := by decide +kernel
theorem dX1_compareAll_42 : decode cX1_compareAll 42 = .ok (.aload_n 0, 1) := by decide +kernel
theorem dX1_compareAll_43 : decode cX1_compareAll 43 = .ok (.iload_n 1, 1) := by decide +kernel
theorem dX1_compareAll_44 : decode cX1_compareAll 44 = .ok (.invokevirtual 91, 3) := by decide +kernel
theorem dX1_compareAll_47 : decode cX1_compareAll 47 = .ok (.iinc 1 1, 3) := by decide +kernel
theorem dX1_compareAll_50 : decode cX1_compareAll 50 = .ok (.goto (-44), 3) := by decide +kernel
theorem dX1_compareAll_53 : decode cX1_compareAll 53 = .ok (.return_, 1) := by decide +kernel
theorem dX1_runChip_0 : decode cX1_runChip 0 = .ok (.aload_n 0, 1) := by decide +kernel
theorem dX1_runChip_1 : decode cX1_runChip 1 = .ok (.getfield 47, 3) := by decide +kernel
theorem dX1_runChip_4 : decode cX1_runChip 4 = .ok (.aload_n 0, 1) := by decide +kernel
theorem dX1_runChip_5 : decode cX1_runChip 5 = .ok (.getfield 43, 3) := by decide +kernel
theorem dX1_runChip_8 : decode cX1_runChip 8 = .ok (.invokevirtual 54, 3) := by decide +kernel
theorem dX1_runChip_11 : decode cX1_runChip 11 = .ok (.aload_n 0, 1) := by decide +kernel
theorem dX1_runChip_12 : decode cX1_runChip 12 = .ok (.getfield 47, 3) := by decide +kernel
theorem dX1_runChip_15 : decode cX1_runChip 15 = .ok (.invokevirtual 60, 3) := by decide +kernel
theorem dX1_runChip_18 : decode cX1_runChip 18 = .ok (.aload_n 0, 1) := by decide +kernel
theorem dX1_runChip_19 : decode cX1_runChip 19 = .ok (.getfield 47, 3) := by decide +kernel
theorem dX1_runChip_22 : decode cX1_runChip 22 = .ok (.aload_n 0, 1) := by decide +kernel
theorem dX1_runChip_23 : decode cX1_runChip 23 = .ok (.getfield 11, 3) := by decide +kernel
theorem dX1_runChip_26 : decode cX1_runChip 26 = .ok (.aload_n 0, 1) := by decide +kernel
theorem dX1_runChip_27 : decode cX1_runChip 27 = .ok (.getfield 51, 3) := by decide +kernel
theorem dX1_runChip_30 : decode cX1_runChip 30 = .ok (.invokevirtual 63, 3) := by decide +kernel
theorem dX1_runChip_33 : decode cX1_runChip 33 = .ok (.iconst 0, 1) := by decide +kernel
theorem dX1_runChip_34 : decode cX1_runChip 34 = .ok (.istore_n 1, 1) := by decide +kernel
theorem dX1_runChip_35 : decode cX1_runChip 35 = .ok (.iload_n 1, 1) := by decide +kernel
theorem dX1_runChip_36 : decode cX1_runChip 36 = .ok (.aload_n 0, 1) := by decide +kernel
theorem dX1_runChip_37 : decode cX1_runChip 37 = .ok (.getfield 35, 3) := by decide +kernel
theorem dX1_runChip_40 : decode cX1_runChip 40 = .ok (.getfield 67, 3) := by decide +kernel
theorem dX1_runChip_43 : decode cX1_runChip 43 = .ok (.if_icmp .ge 31, 3) := by decide +kernel
theorem dX1_runChip_46 : decode cX1_runChip 46 = .ok (.aload_n 0, 1) := by decide +kernel
theorem dX1_runChip_47 : decode cX1_runChip 47 = .ok (.getfield 15, 3) := by decide +kernel
theorem dX1_runChip_50 : decode cX1_runChip 50 = .ok (.iload_n 1, 1) := by decide +kernel
theorem dX1_runChip_51 : decode cX1_runChip 51 = .ok (.aload_n 0, 1) := by decide +kernel
theorem dX1_runChip_52 : decode cX1_runChip 52 = .ok (.getfield 47, 3) := by decide +kernel
theorem dX1_runChip_55 : decode cX1_runChip 55 = .ok (.aload_n 0, 1) := by decide +kernel
theorem dX1_runChip_56 : decode cX1_runChip 56 = .ok (.getfield 35, 3) := by decide +kernel
theorem dX1_runChip_59 : decode cX1_runChip 59 = .ok (.getfield 72, 3) := by decide +kernel
theorem dX1_runChip_62 : decode cX1_runChip 62 = .ok (.iload_n 1, 1) := by decide +kernel
theorem dX1_runChip_63 : decode cX1_runChip 63 = .ok (.iaload, 1) := by decide +kernel
theorem dX1_runChip_64 : decode cX1_runChip 64 = .ok (.invokevirtual 75, 3) := by decide +kernel
theorem dX1_runChip_67 : decode cX1_runChip 67 = .ok (.lastore, 1) := by decide +kernel
theorem dX1_runChip_68 : decode cX1_runChip 68 = .ok (.iinc 1 1, 3) := by decide +kernel
theorem dX1_runChip_71 : decode cX1_runChip 71 = .ok (.goto (-36), 3) := by decide +kernel
theorem dX1_runChip_74 : decode cX1_runChip 74 = .ok (.return_, 1) := by decide +kernel
theorem dX2_add_0 : decode cX2_add 0 = .ok (.aload_n 0, 1) := by decide +kernel
theorem dX2_add_1 : decode cX2_add 1 = .ok (.getfield 11, 3) := by decide +kernel
theorem dX2_add_4 : decode cX2_add 4 = .ok (.aload_n 0, 1) := by decide +kernel
theorem dX2_add_5 : decode cX2_add 5 = .ok (.getfield 30, 3) := by decide +kernel
theorem dX2_add_8 : decode cX2_add 8 = .ok (.iload_n 1, 1) := by decide +kernel
theorem dX2_add_9 : decode cX2_add 9 = .ok (.iastore, 1) := by decide +kernel
theorem dX2_add_10 : decode cX2_add 10 = .ok (.aload_n 0, 1) := by decide +kernel
theorem dX2_add_11 : decode cX2_add 11 = .ok (.getfield 15, 3) := by decide +kernel
theorem dX2_add_14 : decode cX2_add 14 = .ok (.aload_n 0, 1) := by decide +kernel
theorem dX2_add_15 : decode cX2_add 15 = .ok (.getfield 30, 3) := by decide +kernel
theorem dX2_add_18 : decode cX2_add 18 = .ok (.iload_n 2, 1) := by decide +kernel
theorem dX2_add_19 : decode cX2_add 19 = .ok (.iastore, 1) := by decide +kernel
theorem dX2_add_20 : decode cX2_add 20 = .ok (.aload_n 0, 1) := by decide +kernel
theorem dX2_add_21 : decode cX2_add 21 = .ok (.getfield 18, 3) := by decide +kernel
theorem dX2_add_24 : decode cX2_add 24 = .ok (.aload_n 0, 1) := by decide +kernel
theorem dX2_add_25 : decode cX2_add 25 = .ok (.getfield 30, 3) := by decide +kernel
theorem dX2_add_28 : decode cX2_add 28 = .ok (.iload_n 3, 1) := by decide +kernel
theorem dX2_add_29 : decode cX2_add 29 = .ok (.iastore, 1) := by decide +kernel
theorem dX2_add_30 : decode cX2_add 30 = .ok (.aload_n 0, 1) := by decide +kernel
theorem dX2_add_31 : decode cX2_add 31 = .ok (.dup, 1) := by decide +kernel
theorem dX2_add_32 : decode cX2_add 32 = .ok (.getfield 30, 3) := by decide +kernel
theorem dX2_add_35 : decode cX2_add 35 = .ok (.iconst 1, 1) := by decide +kernel
theorem dX2_add_36 : decode cX2_add 36 = .ok (.iadd, 1) := by decide +kernel
theorem dX2_add_37 : decode cX2_add 37 = .ok (.putfield 30, 3) := by decide +kernel
theorem dX2_add_40 : decode cX2_add 40 = .ok (.aload_n 0, 1) := by decide +kernel
theorem dX2_add_41 : decode cX2_add 41 = .ok (.getfield 30, 3) := by decide +kernel
theorem dX2_add_44 : decode cX2_add 44 = .ok (.iconst 1, 1) := by decide +kernel
theorem dX2_add_45 : decode cX2_add 45 = .ok (.isub, 1) := by decide +kernel
theorem dX2_add_46 : decode cX2_add 46 = .ok (.ireturn, 1) := by decide +kernel
theorem dX3_countClasses_0 : decode cX3_countClasses 0 = .ok (.iconst 0, 1) := by decide +kernel
theorem dX3_countClasses_1 : decode cX3_countClasses 1 = .ok (.istore_n 1, 1) := by decide +kernel
theorem dX3_countClasses_2 : decode cX3_countClasses 2 = .ok (.iconst 0, 1) := by decide +kernel
theorem dX3_countClasses_3 : decode cX3_countClasses 3 = .ok (.istore_n 2, 1) := by decide +kernel
theorem dX3_countClasses_4 : decode cX3_countClasses 4 = .ok (.iload_n 2, 1) := by decide +kernel
theorem dX3_countClasses_5 : decode cX3_countClasses 5 = .ok (.aload_n 0, 1) := by decide +kernel
theorem dX3_countClasses_6 : decode cX3_countClasses 6 = .ok (.getfield 73, 3) := by decide +kernel
theorem dX3_countClasses_9 : decode cX3_countClasses 9 = .ok (.if_icmp .ge 20, 3) := by decide +kernel
theorem dX3_countClasses_12 : decode cX3_countClasses 12 = .ok (.aload_n 0, 1) := by decide +kernel
theorem dX3_countClasses_13 : decode cX3_countClasses 13 = .ok (.iload_n 2, 1) := by decide +kernel
theorem dX3_countClasses_14 : decode cX3_countClasses 14 = .ok (.invokevirtual 89, 3) := by decide +kernel
theorem dX3_countClasses_17 : decode cX3_countClasses 17 = .ok (.ifCond .eq 6, 3) := by decide +kernel
theorem dX3_countClasses_20 : decode cX3_countClasses 20 = .ok (.iinc 1 1, 3) := by decide +kernel
theorem dX3_countClasses_23 : decode cX3_countClasses 23 = .ok (.iinc 2 1, 3) := by decide +kernel
theorem dX3_countClasses_26 : decode cX3_countClasses 26 = .ok (.goto (-22), 3) := by decide +kernel
theorem dX3_countClasses_29 : decode cX3_countClasses 29 = .ok (.iload_n 1, 1) := by decide +kernel
theorem dX3_countClasses_30 : decode cX3_countClasses 30 = .ok (.ireturn, 1) := by decide +kernel
theorem dX6_addSource_0 : decode cX6_addSource 0 = .ok (.aload_n 0, 1) := by decide +kernel
theorem dX6_addSource_1 : decode cX6_addSource 1 = .ok (.getfield 68, 3) := by decide +kernel
theorem dX6_addSource_4 : decode cX6_addSource 4 = .ok (.istore_n 2, 1) := by decide +kernel
theorem dX6_addSource_5 : decode cX6_addSource 5 = .ok (.aload_n 0, 1) := by decide +kernel
theorem dX6_addSource_6 : decode cX6_addSource 6 = .ok (.getfield 9, 3) := by decide +kernel
theorem dX6_addSource_9 : decode cX6_addSource 9 = .ok (.iload_n 2, 1) := by decide +kernel
theorem dX6_addSource_10 : decode cX6_addSource 10 = .ok (.iload_n 1, 1) := by decide +kernel
theorem dX6_addSource_11 : decode cX6_addSource 11 = .ok (.ifCond .eq 8, 3) := by decide +kernel
theorem dX6_addSource_14 : decode cX6_addSource 14 = .ok (.bipush 102, 2) := by decide +kernel
theorem dX6_addSource_16 : decode cX6_addSource 16 = .ok (.goto 5, 3) := by decide +kernel
theorem dX6_addSource_19 : decode cX6_addSource 19 = .ok (.bipush 105, 2) := by decide +kernel
theorem dX6_addSource_21 : decode cX6_addSource 21 = .ok (.castore, 1) := by decide +kernel
theorem dX6_addSource_22 : decode cX6_addSource 22 = .ok (.aload_n 0, 1) := by decide +kernel
theorem dX6_addSource_23 : decode cX6_addSource 23 = .ok (.getfield 34, 3) := by decide +kernel
theorem dX6_addSource_26 : decode cX6_addSource 26 = .ok (.iload_n 2, 1) := by decide +kernel
theorem dX6_addSource_27 : decode cX6_addSource 27 = .ok (.lconst 1, 1) := by decide +kernel
theorem dX6_addSource_28 : decode cX6_addSource 28 = .ok (.iload_n 2, 1) := by decide +kernel
theorem dX6_addSource_29 : decode cX6_addSource 29 = .ok (.lshl, 1) := by decide +kernel
theorem dX6_addSource_30 : decode cX6_addSource 30 = .ok (.lastore, 1) := by decide +kernel
theorem dX6_addSource_31 : decode cX6_addSource 31 = .ok (.aload_n 0, 1) := by decide +kernel
theorem dX6_addSource_32 : decode cX6_addSource 32 = .ok (.getfield 31, 3) := by decide +kernel
theorem dX6_addSource_35 : decode cX6_addSource 35 = .ok (.iload_n 2, 1) := by decide +kernel
theorem dX6_addSource_36 : decode cX6_addSource 36 = .ok (.aload_n 0, 1) := by decide +kernel
theorem dX6_addSource_37 : decode cX6_addSource 37 = .ok (.getfield 72, 3) := by decide +kernel
theorem dX6_addSource_40 : decode cX6_addSource 40 = .ok (.iastore, 1) := by decide +kernel
theorem dX6_addSource_41 : decode cX6_addSource 41 = .ok (.aload_n 0, 1) := by decide +kernel
theorem dX6_addSource_42 : decode cX6_addSource 42 = .ok (.dup, 1) := by decide +kernel
theorem dX6_addSource_43 : decode cX6_addSource 43 = .ok (.getfield 72, 3) := by decide +kernel
theorem dX6_addSource_46 : decode cX6_addSource 46 = .ok (.iconst 1, 1) := by decide +kernel
theorem dX6_addSource_47 : decode cX6_addSource 47 = .ok (.iadd, 1) := by decide +kernel
theorem dX6_addSource_48 : decode cX6_addSource 48 = .ok (.putfield 72, 3) := by decide +kernel
theorem dX6_addSource_51 : decode cX6_addSource 51 = .ok (.iload_n 1, 1) := by decide +kernel
theorem dX6_addSource_52 : decode cX6_addSource 52 = .ok (.ifCond .eq 23, 3) := by decide +kernel
theorem dX6_addSource_55 : decode cX6_addSource 55 = .ok (.aload_n 0, 1) := by decide +kernel
theorem dX6_addSource_56 : decode cX6_addSource 56 = .ok (.getfield 38, 3) := by decide +kernel
theorem dX6_addSource_59 : decode cX6_addSource 59 = .ok (.aload_n 0, 1) := by decide +kernel
theorem dX6_addSource_60 : decode cX6_addSource 60 = .ok (.getfield 75, 3) := by decide +kernel
theorem dX6_addSource_63 : decode cX6_addSource 63 = .ok (.iload_n 2, 1) := by decide +kernel
theorem dX6_addSource_64 : decode cX6_addSource 64 = .ok (.iastore, 1) := by decide +kernel
theorem dX6_addSource_65 : decode cX6_addSource 65 = .ok (.aload_n 0, 1) := by decide +kernel
theorem dX6_addSource_66 : decode cX6_addSource 66 = .ok (.dup, 1) := by decide +kernel
theorem dX6_addSource_67 : decode cX6_addSource 67 = .ok (.getfield 75, 3) := by decide +kernel
theorem dX6_addSource_70 : decode cX6_addSource 70 = .ok (.iconst 1, 1) := by decide +kernel
theorem dX6_addSource_71 : decode cX6_addSource 71 = .ok (.iadd, 1) := by decide +kernel
theorem dX6_addSource_72 : decode cX6_addSource 72 = .ok (.putfield 75, 3) := by decide +kernel
theorem dX6_addSource_75 : decode cX6_addSource 75 = .ok (.aload_n 0, 1) := by decide +kernel
theorem dX6_addSource_76 : decode cX6_addSource 76 = .ok (.dup, 1) := by decide +kernel
theorem dX6_addSource_77 : decode cX6_addSource 77 = .ok (.getfield 68, 3) := by decide +kernel
theorem dX6_addSource_80 : decode cX6_addSource 80 = .ok (.iconst 1, 1) := by decide +kernel
theorem dX6_addSource_81 : decode cX6_addSource 81 = .ok (.iadd, 1) := by decide +kernel
theorem dX6_addSource_82 : decode cX6_addSource 82 = .ok (.putfield 68, 3) := by decide +kernel
theorem dX6_addSource_85 : decode cX6_addSource 85 = .ok (.iload_n 2, 1) := by decide +kernel
theorem dX6_addSource_86 : decode cX6_addSource 86 = .ok (.ireturn, 1) := by decide +kernel
theorem dX6_canClose_0 : decode cX6_canClose 0 = .ok (.aload_n 0, 1) := by decide +kernel
theorem dX6_canClose_1 : decode cX6_canClose 1 = .ok (.getfield 75, 3) := by decide +kernel
theorem dX6_canClose_4 : decode cX6_canClose 4 = .ok (.ifCond .le 7, 3) := by decide +kernel
theorem dX6_canClose_7 : decode cX6_canClose 7 = .ok (.iconst 1, 1) := by decide +kernel
theorem dX6_canClose_8 : decode cX6_canClose 8 = .ok (.goto 4, 3) := by decide +kernel
theorem dX6_canClose_11 : decode cX6_canClose 11 = .ok (.iconst 0, 1) := by decide +kernel
theorem dX6_canClose_12 : decode cX6_canClose 12 = .ok (.istore_n 1, 1) := by decide +kernel
theorem dX6_canClose_13 : decode cX6_canClose 13 = .ok (.iconst 0, 1) := by decide +kernel
theorem dX6_canClose_14 : decode cX6_canClose 14 = .ok (.istore_n 2, 1) := by decide +kernel
theorem dX6_canClose_15 : decode cX6_canClose 15 = .ok (.iload_n 2, 1) := by decide +kernel
theorem dX6_canClose_16 : decode cX6_canClose 16 = .ok (.aload_n 0, 1) := by decide +kernel
theorem dX6_canClose_17 : decode cX6_canClose 17 = .ok (.getfield 68, 3) := by decide +kernel
theorem dX6_canClose_20 : decode cX6_canClose 20 = .ok (.if_icmp .ge 40, 3) := by decide +kernel
theorem dX6_canClose_23 : decode cX6_canClose 23 = .ok (.aload_n 0, 1) := by decide +kernel
theorem dX6_canClose_24 : decode cX6_canClose 24 = .ok (.getfield 9, 3) := by decide +kernel
theorem dX6_canClose_27 : decode cX6_canClose 27 = .ok (.iload_n 2, 1) := by decide +kernel
theorem dX6_canClose_28 : decode cX6_canClose 28 = .ok (.caload, 1) := by decide +kernel
theorem dX6_canClose_29 : decode cX6_canClose 29 = .ok (.bipush 102, 2) := by decide +kernel
theorem dX6_canClose_31 : decode cX6_canClose 31 = .ok (.if_icmp .ne 14, 3) := by decide +kernel
theorem dX6_canClose_34 : decode cX6_canClose 34 = .ok (.aload_n 0, 1) := by decide +kernel
theorem dX6_canClose_35 : decode cX6_canClose 35 = .ok (.getfield 22, 3) := by decide +kernel
theorem dX6_canClose_38 : decode cX6_canClose 38 = .ok (.iload_n 2, 1) := by decide +kernel
theorem dX6_canClose_39 : decode cX6_canClose 39 = .ok (.iaload, 1) := by decide +kernel
theorem dX6_canClose_40 : decode cX6_canClose 40 = .ok (.ifCond .ge 5, 3) := by decide +kernel
theorem dX6_canClose_43 : decode cX6_canClose 43 = .ok (.iconst 0, 1) := by decide +kernel
theorem dX6_canClose_44 : decode cX6_canClose 44 = .ok (.ireturn, 1) := by decide +kernel
theorem dX6_canClose_45 : decode cX6_canClose 45 = .ok (.iload_n 1, 1) := by decide +kernel
theorem dX6_canClose_46 : decode cX6_canClose 46 = .ok (.aload_n 0, 1) := by decide +kernel
theorem dX6_canClose_47 : decode cX6_canClose 47 = .ok (.getfield 44, 3) := by decide +kernel
theorem dX6_canClose_50 : decode cX6_canClose 50 = .ok (.iload_n 2, 1) := by decide +kernel
theorem dX6_canClose_51 : decode cX6_canClose 51 = .ok (.baload, 1) := by decide +kernel
theorem dX6_canClose_52 : decode cX6_canClose 52 = .ok (.ior, 1) := by decide +kernel
theorem dX6_canClose_53 : decode cX6_canClose 53 = .ok (.istore_n 1, 1) := by decide +kernel
theorem dX6_canClose_54 : decode cX6_canClose 54 = .ok (.iinc 2 1, 3) := by decide +kernel
theorem dX6_canClose_57 : decode cX6_canClose 57 = .ok (.goto (-42), 3) := by decide +kernel
theorem dX6_canClose_60 : decode cX6_canClose 60 = .ok (.iload_n 1, 1) := by decide +kernel
theorem dX6_canClose_61 : decode cX6_canClose 61 = .ok (.ireturn, 1) := by decide +kernel
theorem dX6_pinsOfKind_0 : decode cX6_pinsOfKind 0 = .ok (.iload_n 0, 1) := by decide +kernel
theorem dX6_pinsOfKind_1 : decode cX6_pinsOfKind 1 = .ok (.tableswitch 115 97 120 #[111, 113, 115, 115, 115, 115, 115, 115, 115, 115, 115, 115, 115, 111, 111, 115, 115, 111, 115, 115, 115, 113, 115, 111], 111) := by decide +kernel
theorem dX6_pinsOfKind_112 : decode cX6_pinsOfKind 112 = .ok (.iconst 2, 1) := by decide +kernel
theorem dX6_pinsOfKind_113 : decode cX6_pinsOfKind 113 = .ok (.ireturn, 1) := by decide +kernel
theorem dX6_pinsOfKind_114 : decode cX6_pinsOfKind 114 = .ok (.iconst 1, 1) := by decide +kernel
theorem dX6_pinsOfKind_115 : decode cX6_pinsOfKind 115 = .ok (.ireturn, 1) := by decide +kernel
theorem dX6_pinsOfKind_116 : decode cX6_pinsOfKind 116 = .ok (.iconst 0, 1) := by decide +kernel
theorem dX6_pinsOfKind_117 : decode cX6_pinsOfKind 117 = .ok (.ireturn, 1) := by decide +kernel
def gk2 (x : Int32) : Prop := x = 97 ∨ x = 110 ∨ x = 111 ∨ x = 114 ∨ x = 120
def gk1 (x : Int32) : Prop := x = 98 ∨ x = 118
set_option maxHeartbeats 4000000 in
set_option maxRecDepth 100000 in
theorem k_X6_pinsOfKind (l : Launch) (D : va_G) (g : Nat → ClassId) (z0 sz : Nat) (p0 : Int32) : Met l yX6_pinsOfKind (.code yX6_pinsOfKind cX6_pinsOfKind 1 (some .int) :: TG) (rmk 0 0 0 0) (va_Pc [.int p0] (PP D g z0 sz [])) (va_Qi (fun (r : Int32) (_ : Unit) => (r = 2 ∧ gk2 p0) ∨ (r = 1 ∧ gk1 p0) ∨ (r = 0 ∧ ¬ gk2 p0 ∧ ¬ gk1 p0)) (fun (_ : Unit) (_ : State) => True) (va_A [] sz)) 0 0 (va_A [] sz) := by
  refine met0 (cc := cX6_pinsOfKind) (n := 1) (by decide) (Nat.le_of_ble_eq_true rfl) ?_
  intro p e s m args below meth c hx hb hr hml hown ht hlocks hnm hP0 hD0 hK hZ hsz hz ls hl
  subst hsz
  have hS : va_S (va_A [] s.heap.size) s.heap s.heap [] := va_S.rf
  have hl : lv_has ls 1 [(0, .int p0)] := hl
  refine lv_iload_n hx hb dX6_pinsOfKind_0 rfl (lv_at hl 0 rfl) ?_
  have e2 : ¬ gk2 p0 → ¬ gk1 p0 → W p l e (rmk 0 0 0 0) s m args below meth c s.heap [] 0 0 (MQ below (va_Qi (fun (r : Int32) (_ : Unit) => (r = 2 ∧ gk2 p0) ∨ (r = 1 ∧ gk1 p0) ∨ (r = 0 ∧ ¬ gk2 p0 ∧ ¬ gk1 p0)) (fun (_ : Unit) (_ : State) => True) (va_A [] s.heap.size)) args s 0 0 (va_A [] s.heap.size)) (F0 m 116 ls []) := by
    intro h2 h1
    refine lv_iconst (v := 0) hx hb dX6_pinsOfKind_116 (by decide) ?_
    exact W.iret (v := 0) hx hb hr (fun t ht9 hW9 => ⟨⟨0, (), rfl, Or.inr (Or.inr ⟨rfl, h2, h1⟩), trivial⟩, hS.F ht9⟩) hS.2.2 dX6_pinsOfKind_117 hlocks
  have e1 : gk1 p0 → W p l e (rmk 0 0 0 0) s m args below meth c s.heap [] 0 0 (MQ below (va_Qi (fun (r : Int32) (_ : Unit) => (r = 2 ∧ gk2 p0) ∨ (r = 1 ∧ gk1 p0) ∨ (r = 0 ∧ ¬ gk2 p0 ∧ ¬ gk1 p0)) (fun (_ : Unit) (_ : State) => True) (va_A [] s.heap.size)) args s 0 0 (va_A [] s.heap.size)) (F0 m 114 ls []) := by
    intro h1
    refine lv_iconst (v := 1) hx hb dX6_pinsOfKind_114 (by decide) ?_
    exact W.iret (v := 1) hx hb hr (fun t ht9 hW9 => ⟨⟨1, (), rfl, Or.inr (Or.inl ⟨rfl, h1⟩), trivial⟩, hS.F ht9⟩) hS.2.2 dX6_pinsOfKind_115 hlocks
  have e0 : gk2 p0 → W p l e (rmk 0 0 0 0) s m args below meth c s.heap [] 0 0 (MQ below (va_Qi (fun (r : Int32) (_ : Unit) => (r = 2 ∧ gk2 p0) ∨ (r = 1 ∧ gk1 p0) ∨ (r = 0 ∧ ¬ gk2 p0 ∧ ¬ gk1 p0)) (fun (_ : Unit) (_ : State) => True) (va_A [] s.heap.size)) args s 0 0 (va_A [] s.heap.size)) (F0 m 112 ls []) := by
    intro h1
    refine lv_iconst (v := 2) hx hb dX6_pinsOfKind_112 (by decide) ?_
    exact W.iret (v := 2) hx hb hr (fun t ht9 hW9 => ⟨⟨2, (), rfl, Or.inl ⟨rfl, h1⟩, trivial⟩, hS.F ht9⟩) hS.2.2 dX6_pinsOfKind_113 hlocks
  by_cases c1 : p0 < 97
  · refine lv_tableOut (tgt := 116) hx hb dX6_pinsOfKind_1 (Or.inl (Int32.lt_iff_toInt_lt.mp c1)) (by decide) ?_
    refine e2 (fun h => ?_) (fun h => ?_)
    · unfold gk2 at h
      rcases h with h | h | h | h | h <;> (subst h; exact absurd c1 (by decide))
    · unfold gk1 at h
      rcases h with h | h <;> (subst h; exact absurd c1 (by decide))
  by_cases c2 : 120 < p0
  · refine lv_tableOut (tgt := 116) hx hb dX6_pinsOfKind_1 (Or.inr (Int32.lt_iff_toInt_lt.mp c2)) (by decide) ?_
    refine e2 (fun h => ?_) (fun h => ?_)
    · unfold gk2 at h
      rcases h with h | h | h | h | h <;> (subst h; exact absurd c2 (by decide))
    · unfold gk1 at h
      rcases h with h | h <;> (subst h; exact absurd c2 (by decide))
  obtain ⟨j, j1, j2, rfl⟩ := sw_j (a := 97) (b := 120) (by decide) (by decide) c1 c2
  rcases (show j = 97 ∨ j = 98 ∨ j = 99 ∨ j = 100 ∨ j = 101 ∨ j = 102 ∨ j = 103 ∨ j = 104 ∨ j = 105 ∨ j = 106 ∨ j = 107 ∨ j = 108 ∨ j = 109 ∨ j = 110 ∨ j = 111 ∨ j = 112 ∨ j = 113 ∨ j = 114 ∨ j = 115 ∨ j = 116 ∨ j = 117 ∨ j = 118 ∨ j = 119 ∨ j = 120 by omega) with rfl | rfl | rfl | rfl | rfl | rfl | rfl | rfl | rfl | rfl | rfl | rfl | rfl | rfl | rfl | rfl | rfl | rfl | rfl | rfl | rfl | rfl | rfl | rfl
  · refine lv_tableIn (off := 111) (tgt := 112) hx hb dX6_pinsOfKind_1 (by decide) (by decide) (by decide) (by decide) ?_
    exact e0 (by unfold gk2; decide)
  · refine lv_tableIn (off := 113) (tgt := 114) hx hb dX6_pinsOfKind_1 (by decide) (by decide) (by decide) (by decide) ?_
    exact e1 (by unfold gk1; decide)
  · refine lv_tableIn (off := 115) (tgt := 116) hx hb dX6_pinsOfKind_1 (by decide) (by decide) (by decide) (by decide) ?_
    exact e2 (by unfold gk2; decide) (by unfold gk1; decide)
  · refine lv_tableIn (off := 115) (tgt := 116) hx hb dX6_pinsOfKind_1 (by decide) (by decide) (by decide) (by decide) ?_
    exact e2 (by unfold gk2; decide) (by unfold gk1; decide)
  · refine lv_tableIn (off := 115) (tgt := 116) hx hb dX6_pinsOfKind_1 (by decide) (by decide) (by decide) (by decide) ?_
    exact e2 (by unfold gk2; decide) (by unfold gk1; decide)
  · refine lv_tableIn (off := 115) (tgt := 116) hx hb dX6_pinsOfKind_1 (by decide) (by decide) (by decide) (by decide) ?_
    exact e2 (by unfold gk2; decide) (by unfold gk1; decide)
  · refine lv_tableIn (off := 115) (tgt := 116) hx hb dX6_pinsOfKind_1 (by decide) (by decide) (by decide) (by decide) ?_
    exact e2 (by unfold gk2; decide) (by unfold gk1; decide)
  · refine lv_tableIn (off := 115) (tgt := 116) hx hb dX6_pinsOfKind_1 (by decide) (by decide) (by decide) (by decide) ?_
    exact e2 (by unfold gk2; decide) (by unfold gk1; decide)
  · refine lv_tableIn (off := 115) (tgt := 116) hx hb dX6_pinsOfKind_1 (by decide) (by decide) (by decide) (by decide) ?_
    exact e2 (by unfold gk2; decide) (by unfold gk1; decide)
  · refine lv_tableIn (off := 115) (tgt := 116) hx hb dX6_pinsOfKind_1 (by decide) (by decide) (by decide) (by decide) ?_
    exact e2 (by unfold gk2; decide) (by unfold gk1; decide)
  · refine lv_tableIn (off := 115) (tgt := 116) hx hb dX6_pinsOfKind_1 (by decide) (by decide) (by decide) (by decide) ?_
    exact e2 (by unfold gk2; decide) (by unfold gk1; decide)
  · refine lv_tableIn (off := 115) (tgt := 116) hx hb dX6_pinsOfKind_1 (by decide) (by decide) (by decide) (by decide) ?_
    exact e2 (by unfold gk2; decide) (by unfold gk1; decide)
  · refine lv_tableIn (off := 115) (tgt := 116) hx hb dX6_pinsOfKind_1 (by decide) (by decide) (by decide) (by decide) ?_
    exact e2 (by unfold gk2; decide) (by unfold gk1; decide)
  · refine lv_tableIn (off := 111) (tgt := 112) hx hb dX6_pinsOfKind_1 (by decide) (by decide) (by decide) (by decide) ?_
    exact e0 (by unfold gk2; decide)
  · refine lv_tableIn (off := 111) (tgt := 112) hx hb dX6_pinsOfKind_1 (by decide) (by decide) (by decide) (by decide) ?_
    exact e0 (by unfold gk2; decide)
  · refine lv_tableIn (off := 115) (tgt := 116) hx hb dX6_pinsOfKind_1 (by decide) (by decide) (by decide) (by decide) ?_
    exact e2 (by unfold gk2; decide) (by unfold gk1; decide)
  · refine lv_tableIn (off := 115) (tgt := 116) hx hb dX6_pinsOfKind_1 (by decide) (by decide) (by decide) (by decide) ?_
    exact e2 (by unfold gk2; decide) (by unfold gk1; decide)
  · refine lv_tableIn (off := 111) (tgt := 112) hx hb dX6_pinsOfKind_1 (by decide) (by decide) (by decide) (by decide) ?_
    exact e0 (by unfold gk2; decide)
  · refine lv_tableIn (off := 115) (tgt := 116) hx hb dX6_pinsOfKind_1 (by decide) (by decide) (by decide) (by decide) ?_
    exact e2 (by unfold gk2; decide) (by unfold gk1; decide)
  · refine lv_tableIn (off := 115) (tgt := 116) hx hb dX6_pinsOfKind_1 (by decide) (by decide) (by decide) (by decide) ?_
    exact e2 (by unfold gk2; decide) (by unfold gk1; decide)
  · refine lv_tableIn (off := 115) (tgt := 116) hx hb dX6_pinsOfKind_1 (by decide) (by decide) (by decide) (by decide) ?_
    exact e2 (by unfold gk2; decide) (by unfold gk1; decide)
  · refine lv_tableIn (off := 113) (tgt := 114) hx hb dX6_pinsOfKind_1 (by decide) (by decide) (by decide) (by decide) ?_
    exact e1 (by unfold gk1; decide)
  · refine lv_tableIn (off := 115) (tgt := 116) hx hb dX6_pinsOfKind_1 (by decide) (by decide) (by decide) (by decide) ?_
    exact e2 (by unfold gk2; decide) (by unfold gk1; decide)
  · refine lv_tableIn (off := 111) (tgt := 112) hx hb dX6_pinsOfKind_1 (by decide) (by decide) (by decide) (by decide) ?_
    exact e0 (by unfold gk2; decide)

theorem cell_i {D : va_G} {cl : List vw_C} {h0 : Nat} {cA : ClassId} {n : Nat} {f f2 : Nat → Int32} {H : Heap} (h : ∀ j, j < n → f j = f2 j) (hP : va_P D cl [(h0, .inl (cA, n, .inl f))] H) : va_P D cl [(h0, .inl (cA, n, .inl f2))] H := by
  intro k q hq
  have h0 : k < 1 := (List.getElem?_eq_some_iff.mp hq).1
  rw [show k = 0 by omega] at hq
  cases hq
  have := hP 0 _ rfl
  show H[_]? = some (arrV cA n (fun j => .int (f2 j)))
  rw [← arrV_eq (fun j hj => congrArg Value.int (h j hj))]
  exact this
theorem cell_l {D : va_G} {cl : List vw_C} {h0 : Nat} {cA : ClassId} {n : Nat} {f f2 : Nat → Int64} {H : Heap} (h : ∀ j, j < n → f j = f2 j) (hP : va_P D cl [(h0, .inl (cA, n, .inr (.inl f)))] H) : va_P D cl [(h0, .inl (cA, n, .inr (.inl f2)))] H := by
  intro k q hq
  have h0 : k < 1 := (List.getElem?_eq_some_iff.mp hq).1
  rw [show k = 0 by omega] at hq
  cases hq
  have := hP 0 _ rfl
  show H[_]? = some (arrV cA n (fun j => .long (f2 j)))
  rw [← arrV_eq (fun j hj => congrArg Value.long (h j hj))]
  exact this
theorem one_D {A : Nat → Prop} {h0 : Nat} {e1 e2 : va_E} (h : va_D A [(h0, e1)]) : va_D A [(h0, e2)] := by
  refine ⟨fun i j p q hi hj _ => ?_, fun k q hq => ?_⟩
  · have h1 : i < 1 := (List.getElem?_eq_some_iff.mp hi).1
    have h2 : j < 1 := (List.getElem?_eq_some_iff.mp hj).1
    omega
  · have h1 : k < 1 := (List.getElem?_eq_some_iff.mp hq).1
    rw [show k = 0 by omega] at hq
    cases hq
    exact h.2 0 (h0, e1) rfl
set_option maxHeartbeats 4000000 in
set_option maxRecDepth 100000 in
theorem k_fillI (l : Launch) (D : va_G) (g : Nat → ClassId) (z0 sz : Nat) (h0 n : Nat) (f : Nat → Int32) (v : Int32) (hn : n < 2 ^ 31) : Met l yJ7_fill_53178 (.code yJ7_fill_53178 cJ7_fill_53178 4 none :: TG) (rmk 0 0 0 0) (va_Pc [.ref h0, .int v] (PP D g z0 sz [(h0, .inl (g 0, n, .inl (f)))])) (va_Qv (fun (_ : Unit) => True) (fun (_ : Unit) (t : State) => va_P D vwCl [(h0, .inl (g 0, n, .inl (fun _ => v)))] t.heap ∧ va_D (va_A [(h0, .inl (g 0, n, .inl (f)))] sz) [(h0, .inl (g 0, n, .inl (fun _ => v)))]) (va_A [(h0, .inl (g 0, n, .inl (f)))] sz)) 0 0 (va_A [(h0, .inl (g 0, n, .inl (f)))] sz) := by
  refine met0 (cc := cJ7_fill_53178) (n := 4) (by decide) (Nat.le_of_ble_eq_true rfl) ?_
  intro p e s m args below meth c hx hb hr hml hown ht hlocks hnm hP0 hD0 hK hZ hsz hz ls hl
  subst hsz
  have hS : va_S (va_A [(h0, .inl (g 0, n, .inl (f)))] s.heap.size) s.heap s.heap [] := va_S.rf
  have hD : va_D (va_A [(h0, .inl (g 0, n, .inl (f)))] s.heap.size) [(h0, .inl (g 0, n, .inl (f)))] := hD0.self
  have hP : va_P D vwCl [(h0, .inl (g 0, n, .inl (f)))] s.heap := hP0
  have hl : lv_has ls 4 [(0, .ref h0), (1, .int v)] := hl
  have loop : ∀ (k i : Nat), n = i + k → ∀ (H : Heap) (locs : List Loc), va_P D vwCl [(h0, .inl (g 0, n, .inl (fun j => if j < i then v else f j)))] H → va_D (va_A [(h0, .inl (g 0, n, .inl (f)))] s.heap.size) [(h0, .inl (g 0, n, .inl (fun j => if j < i then v else f j)))] → va_S (va_A [(h0, .inl (g 0, n, .inl (f)))] s.heap.size) s.heap H locs → ∀ (ls : Array Slot), lv_has ls 4 [(3, .int (nI n)), (2, .int (nI i)), (0, .ref h0), (1, .int v)] →
      W p l e (rmk 0 0 0 0) s m args below meth c H locs 0 0 (MQ below (va_Qv (fun (_ : Unit) => True) (fun (_ : Unit) (t : State) => va_P D vwCl [(h0, .inl (g 0, n, .inl (fun _ => v)))] t.heap ∧ va_D (va_A [(h0, .inl (g 0, n, .inl (f)))] s.heap.size) [(h0, .inl (g 0, n, .inl (fun _ => v)))]) (va_A [(h0, .inl (g 0, n, .inl (f)))] s.heap.size)) args s 0 0 (va_A [(h0, .inl (g 0, n, .inl (f)))] s.heap.size)) (F0 m 5 ls []) := by
    intro k
    induction k with
    | zero =>
      intro i hi H locs hP hD hS ls hl
      have hi : i = n := by omega
      subst hi
      refine lv_iload_n hx hb dJ7_fill_53178_5 rfl (lv_at hl 1 rfl) ?_
      refine lv_iload_n hx hb dJ7_fill_53178_6 rfl (lv_at hl 0 rfl) ?_
      refine lv_icmp_ge (tgt := 20) hx hb dJ7_fill_53178_7 (by decide) (fun c_1 => ?_) (fun c_1 => absurd (nI_le (Nat.le_refl _) hn) c_1)
      have hP9 := cell_i (f2 := fun _ => v) (fun j hj => if_pos hj) hP
      have hD9 : va_D (va_A [(h0, .inl (g 0, i, .inl (f)))] s.heap.size) [(h0, .inl (g 0, i, .inl (fun _ => v)))] := one_D hD
      exact W.vret hx hb hr (fun t ht9 hW9 => ⟨⟨(), rfl, trivial, (by rw [ht9]; exact hP9), hD9⟩, hS.F ht9⟩) hS.2.2 dJ7_fill_53178_20 hlocks
    | succ k ih =>
      intro i hi H locs hP hD hS ls hl
      have hlt : i < n := by omega
      refine lv_iload_n hx hb dJ7_fill_53178_5 rfl (lv_at hl 1 rfl) ?_
      refine lv_iload_n hx hb dJ7_fill_53178_6 rfl (lv_at hl 0 rfl) ?_
      refine lv_icmp_ge (tgt := 20) hx hb dJ7_fill_53178_7 (by decide) (fun c_1 => absurd c_1 (nI_ge hlt hn)) (fun c_1 => ?_)
      refine lv_aload_n hx hb dJ7_fill_53178_10 rfl (lv_at hl 2 rfl) ?_
      refine lv_iload_n hx hb dJ7_fill_53178_11 rfl (lv_at hl 1 rfl) ?_
      refine lv_iload_n hx hb dJ7_fill_53178_12 rfl (lv_at hl 3 rfl) ?_
      refine va_iast hx hb hK.1 hP hD hS 0 0 rfl rfl (vp_in_nI hlt hn) dJ7_fill_53178_13 (fun H locs hP hD hS => ?_)
      have ef : upd (fun j => if j < i then v else f j) (nI i).toNatClampNeg v = fun j => if j < i + 1 then v else f j := by
        funext j
        rw [nI_clamp (Nat.lt_trans hlt hn)]
        skip
        unfold upd
        by_cases h1 : j = i
        · subst h1
          rw [if_pos rfl, if_pos (by omega)]
        · rw [if_neg h1]
          show (if j < i then v else f j) = _
          by_cases h2 : j < i
          · rw [if_pos h2, if_pos (by omega)]
          · rw [if_neg h2, if_neg (by omega)]
      have hP : va_P D vwCl [(h0, .inl (g 0, n, .inl (fun j => if j < i + 1 then v else f j)))] H := by rw [← ef]; exact hP
      have hD : va_D (va_A [(h0, .inl (g 0, n, .inl (f)))] s.heap.size) [(h0, .inl (g 0, n, .inl (fun j => if j < i + 1 then v else f j)))] := by rw [← ef]; exact hD
      refine lv_iinc (v := nI (i + 1)) (lv' := [(2, .int (nI (i + 1))), (3, .int (nI n)), (0, .ref h0), (1, .int v)]) hx hb dJ7_fill_53178_14 hl (k := 1) rfl (nI_1 i) (by decide) rfl (fun ls hl => ?_)
      refine lv_goto (tgt := 5) hx hb dJ7_fill_53178_17 (by decide) ?_
      exact ih (i + 1) (by omega) H locs hP hD hS ls (lv_sub hl [1, 0, 2, 3] rfl)
  refine lv_iconst (v := 0) hx hb dJ7_fill_53178_0 (by decide) ?_
  refine lv_istore_n (lv' := [(2, .int 0), (0, .ref h0), (1, .int v)]) hx hb dJ7_fill_53178_1 rfl hl (by decide) rfl (fun ls hl => ?_)
  refine lv_aload_n hx hb dJ7_fill_53178_2 rfl (lv_at hl 1 rfl) ?_
  refine va_alen (v := nI n) hx hb hK.1 hP 0 rfl (t0 := 0) rfl rfl dJ7_fill_53178_3 ?_
  refine lv_istore_n (lv' := [(3, .int (nI n)), (2, .int 0), (0, .ref h0), (1, .int v)]) hx hb dJ7_fill_53178_4 rfl hl (by decide) rfl (fun ls hl => ?_)
  have e0 : (fun j => if j < 0 then v else f j) = f := by funext j; rw [if_neg (Nat.not_lt_zero j)]
  exact loop n 0 (by omega) s.heap [] (by rw [e0]; exact hP) (by rw [e0]; exact hD) hS ls hl
set_option maxHeartbeats 4000000 in
set_option maxRecDepth 100000 in
theorem k_fillZ (l : Launch) (D : va_G) (g : Nat → ClassId) (z0 sz : Nat) (h0 n : Nat) (f : Nat → Int32) (v : Int32) (hn : n < 2 ^ 31) (hv : vp_nar .boolean v = v) : Met l yJ7_fill_49daa (.code yJ7_fill_49daa cJ7_fill_49daa 4 none :: TG) (rmk 0 0 0 0) (va_Pc [.ref h0, .int v] (PP D g z0 sz [(h0, .inl (g 3, n, .inl (f)))])) (va_Qv (fun (_ : Unit) => True) (fun (_ : Unit) (t : State) => va_P D vwCl [(h0, .inl (g 3, n, .inl (fun _ => v)))] t.heap ∧ va_D (va_A [(h0, .inl (g 3, n, .inl (f)))] sz) [(h0, .inl (g 3, n, .inl (fun _ => v)))]) (va_A [(h0, .inl (g 3, n, .inl (f)))] sz)) 0 0 (va_A [(h0, .inl (g 3, n, .inl (f)))] sz) := by
  refine met0 (cc := cJ7_fill_49daa) (n := 4) (by decide) (Nat.le_of_ble_eq_true rfl) ?_
  intro p e s m args below meth c hx hb hr hml hown ht hlocks hnm hP0 hD0 hK hZ hsz hz ls hl
  subst hsz
  have hS : va_S (va_A [(h0, .inl (g 3, n, .inl (f)))] s.heap.size) s.heap s.heap [] := va_S.rf
  have hD : va_D (va_A [(h0, .inl (g 3, n, .inl (f)))] s.heap.size) [(h0, .inl (g 3, n, .inl (f)))] := hD0.self
  have hP : va_P D vwCl [(h0, .inl (g 3, n, .inl (f)))] s.heap := hP0
  have hl : lv_has ls 4 [(0, .ref h0), (1, .int v)] := hl
  have loop : ∀ (k i : Nat), n = i + k → ∀ (H : Heap) (locs : List Loc), va_P D vwCl [(h0, .inl (g 3, n, .inl (fun j => if j < i then v else f j)))] H → va_D (va_A [(h0, .inl (g 3, n, .inl (f)))] s.heap.size) [(h0, .inl (g 3, n, .inl (fun j => if j < i then v else f j)))] → va_S (va_A [(h0, .inl (g 3, n, .inl (f)))] s.heap.size) s.heap H locs → ∀ (ls : Array Slot), lv_has ls 4 [(3, .int (nI n)), (2, .int (nI i)), (0, .ref h0), (1, .int v)] →
      W p l e (rmk 0 0 0 0) s m args below meth c H locs 0 0 (MQ below (va_Qv (fun (_ : Unit) => True) (fun (_ : Unit) (t : State) => va_P D vwCl [(h0, .inl (g 3, n, .inl (fun _ => v)))] t.heap ∧ va_D (va_A [(h0, .inl (g 3, n, .inl (f)))] s.heap.size) [(h0, .inl (g 3, n, .inl (fun _ => v)))]) (va_A [(h0, .inl (g 3, n, .inl (f)))] s.heap.size)) args s 0 0 (va_A [(h0, .inl (g 3, n, .inl (f)))] s.heap.size)) (F0 m 5 ls []) := by
    intro k
    induction k with
    | zero =>
      intro i hi H locs hP hD hS ls hl
      have hi : i = n := by omega
      subst hi
      refine lv_iload_n hx hb dJ7_fill_49daa_5 rfl (lv_at hl 1 rfl) ?_
      refine lv_iload_n hx hb dJ7_fill_49daa_6 rfl (lv_at hl 0 rfl) ?_
      refine lv_icmp_ge (tgt := 20) hx hb dJ7_fill_49daa_7 (by decide) (fun c_1 => ?_) (fun c_1 => absurd (nI_le (Nat.le_refl _) hn) c_1)
      have hP9 := cell_i (f2 := fun _ => v) (fun j hj => if_pos hj) hP
      have hD9 : va_D (va_A [(h0, .inl (g 3, i, .inl (f)))] s.heap.size) [(h0, .inl (g 3, i, .inl (fun _ => v)))] := one_D hD
      exact W.vret hx hb hr (fun t ht9 hW9 => ⟨⟨(), rfl, trivial, (by rw [ht9]; exact hP9), hD9⟩, hS.F ht9⟩) hS.2.2 dJ7_fill_49daa_20 hlocks
    | succ k ih =>
      intro i hi H locs hP hD hS ls hl
      have hlt : i < n := by omega
      refine lv_iload_n hx hb dJ7_fill_49daa_5 rfl (lv_at hl 1 rfl) ?_
      refine lv_iload_n hx hb dJ7_fill_49daa_6 rfl (lv_at hl 0 rfl) ?_
      refine lv_icmp_ge (tgt := 20) hx hb dJ7_fill_49daa_7 (by decide) (fun c_1 => absurd c_1 (nI_ge hlt hn)) (fun c_1 => ?_)
      refine lv_aload_n hx hb dJ7_fill_49daa_10 rfl (lv_at hl 2 rfl) ?_
      refine lv_iload_n hx hb dJ7_fill_49daa_11 rfl (lv_at hl 1 rfl) ?_
      refine lv_iload_n hx hb dJ7_fill_49daa_12 rfl (lv_at hl 3 rfl) ?_
      refine va_zast hx hb hK.1 hP hD hS 0 3 rfl rfl (vp_in_nI hlt hn) dJ7_fill_49daa_13 (fun H locs hP hD hS => ?_)
      have ef : upd (fun j => if j < i then v else f j) (nI i).toNatClampNeg (vp_nar .boolean v) = fun j => if j < i + 1 then v else f j := by
        funext j
        rw [nI_clamp (Nat.lt_trans hlt hn)]
        rw [hv]
        unfold upd
        by_cases h1 : j = i
        · subst h1
          rw [if_pos rfl, if_pos (by omega)]
        · rw [if_neg h1]
          show (if j < i then v else f j) = _
          by_cases h2 : j < i
          · rw [if_pos h2, if_pos (by omega)]
          · rw [if_neg h2, if_neg (by omega)]
      have hP : va_P D vwCl [(h0, .inl (g 3, n, .inl (fun j => if j < i + 1 then v else f j)))] H := by rw [← ef]; exact hP
      have hD : va_D (va_A [(h0, .inl (g 3, n, .inl (f)))] s.heap.size) [(h0, .inl (g 3, n, .inl (fun j => if j < i + 1 then v else f j)))] := by rw [← ef]; exact hD
      refine lv_iinc (v := nI (i + 1)) (lv' := [(2, .int (nI (i + 1))), (3, .int (nI n)), (0, .ref h0), (1, .int v)]) hx hb dJ7_fill_49daa_14 hl (k := 1) rfl (nI_1 i) (by decide) rfl (fun ls hl => ?_)
      refine lv_goto (tgt := 5) hx hb dJ7_fill_49daa_17 (by decide) ?_
      exact ih (i + 1) (by omega) H locs hP hD hS ls (lv_sub hl [1, 0, 2, 3] rfl)
  refine lv_iconst (v := 0) hx hb dJ7_fill_49daa_0 (by decide) ?_
  refine lv_istore_n (lv' := [(2, .int 0), (0, .ref h0), (1, .int v)]) hx hb dJ7_fill_49daa_1 rfl hl (by decide) rfl (fun ls hl => ?_)
  refine lv_aload_n hx hb dJ7_fill_49daa_2 rfl (lv_at hl 1 rfl) ?_
  refine va_alen (v := nI n) hx hb hK.1 hP 0 rfl (t0 := 3) rfl rfl dJ7_fill_49daa_3 ?_
  refine lv_istore_n (lv' := [(3, .int (nI n)), (2, .int 0), (0, .ref h0), (1, .int v)]) hx hb dJ7_fill_49daa_4 rfl hl (by decide) rfl (fun ls hl => ?_)
  have e0 : (fun j => if j < 0 then v else f j) = f := by funext j; rw [if_neg (Nat.not_lt_zero j)]
  exact loop n 0 (by omega) s.heap [] (by rw [e0]; exact hP) (by rw [e0]; exact hD) hS ls hl
set_option maxHeartbeats 4000000 in
set_option maxRecDepth 100000 in
theorem k_fillJ (l : Launch) (D : va_G) (g : Nat → ClassId) (z0 sz : Nat) (h0 n : Nat) (f : Nat → Int64) (v : Int64) (hn : n < 2 ^ 31) : Met l yJ7_fill_d0a16 (.code yJ7_fill_d0a16 cJ7_fill_d0a16 5 none :: TG) (rmk 0 0 0 0) (va_Pc [.ref h0, .long v] (PP D g z0 sz [(h0, .inl (g 1, n, .inr (.inl (f))))])) (va_Qv (fun (_ : Unit) => True) (fun (_ : Unit) (t : State) => va_P D vwCl [(h0, .inl (g 1, n, .inr (.inl (fun _ => v))))] t.heap ∧ va_D (va_A [(h0, .inl (g 1, n, .inr (.inl (f))))] sz) [(h0, .inl (g 1, n, .inr (.inl (fun _ => v))))]) (va_A [(h0, .inl (g 1, n, .inr (.inl (f))))] sz)) 0 0 (va_A [(h0, .inl (g 1, n, .inr (.inl (f))))] sz) := by
  refine met0 (cc := cJ7_fill_d0a16) (n := 5) (by decide) (Nat.le_of_ble_eq_true rfl) ?_
  intro p e s m args below meth c hx hb hr hml hown ht hlocks hnm hP0 hD0 hK hZ hsz hz ls hl
  subst hsz
  have hS : va_S (va_A [(h0, .inl (g 1, n, .inr (.inl (f))))] s.heap.size) s.heap s.heap [] := va_S.rf
  have hD : va_D (va_A [(h0, .inl (g 1, n, .inr (.inl (f))))] s.heap.size) [(h0, .inl (g 1, n, .inr (.inl (f))))] := hD0.self
  have hP : va_P D vwCl [(h0, .inl (g 1, n, .inr (.inl (f))))] s.heap := hP0
  have hl : lv_has ls 5 [(0, .ref h0), (1, .long v)] := hl
  have loop : ∀ (k i : Nat), n = i + k → ∀ (H : Heap) (locs : List Loc), va_P D vwCl [(h0, .inl (g 1, n, .inr (.inl (fun j => if j < i then v else f j))))] H → va_D (va_A [(h0, .inl (g 1, n, .inr (.inl (f))))] s.heap.size) [(h0, .inl (g 1, n, .inr (.inl (fun j => if j < i then v else f j))))] → va_S (va_A [(h0, .inl (g 1, n, .inr (.inl (f))))] s.heap.size) s.heap H locs → ∀ (ls : Array Slot), lv_has ls 5 [(4, .int (nI n)), (3, .int (nI i)), (0, .ref h0), (1, .long v)] →
      W p l e (rmk 0 0 0 0) s m args below meth c H locs 0 0 (MQ below (va_Qv (fun (_ : Unit) => True) (fun (_ : Unit) (t : State) => va_P D vwCl [(h0, .inl (g 1, n, .inr (.inl (fun _ => v))))] t.heap ∧ va_D (va_A [(h0, .inl (g 1, n, .inr (.inl (f))))] s.heap.size) [(h0, .inl (g 1, n, .inr (.inl (fun _ => v))))]) (va_A [(h0, .inl (g 1, n, .inr (.inl (f))))] s.heap.size)) args s 0 0 (va_A [(h0, .inl (g 1, n, .inr (.inl (f))))] s.heap.size)) (F0 m 6 ls []) := by
    intro k
    induction k with
    | zero =>
      intro i hi H locs hP hD hS ls hl
      have hi : i = n := by omega
      subst hi
      refine lv_iload_n hx hb dJ7_fill_d0a16_6 rfl (lv_at hl 1 rfl) ?_
      refine lv_iload hx hb dJ7_fill_d0a16_7 (lv_at hl 0 rfl) ?_
      refine lv_icmp_ge (tgt := 22) hx hb dJ7_fill_d0a16_9 (by decide) (fun c_1 => ?_) (fun c_1 => absurd (nI_le (Nat.le_refl _) hn) c_1)
      have hP9 := cell_l (f2 := fun _ => v) (fun j hj => if_pos hj) hP
      have hD9 : va_D (va_A [(h0, .inl (g 1, i, .inr (.inl (f))))] s.heap.size) [(h0, .inl (g 1, i, .inr (.inl (fun _ => v))))] := one_D hD
      exact W.vret hx hb hr (fun t ht9 hW9 => ⟨⟨(), rfl, trivial, (by rw [ht9]; exact hP9), hD9⟩, hS.F ht9⟩) hS.2.2 dJ7_fill_d0a16_22 hlocks
    | succ k ih =>
      intro i hi H locs hP hD hS ls hl
      have hlt : i < n := by omega
      refine lv_iload_n hx hb dJ7_fill_d0a16_6 rfl (lv_at hl 1 rfl) ?_
      refine lv_iload hx hb dJ7_fill_d0a16_7 (lv_at hl 0 rfl) ?_
      refine lv_icmp_ge (tgt := 22) hx hb dJ7_fill_d0a16_9 (by decide) (fun c_1 => absurd c_1 (nI_ge hlt hn)) (fun c_1 => ?_)
      refine lv_aload_n hx hb dJ7_fill_d0a16_12 rfl (lv_at hl 2 rfl) ?_
      refine lv_iload_n hx hb dJ7_fill_d0a16_13 rfl (lv_at hl 1 rfl) ?_
      refine lv_lload_n hx hb dJ7_fill_d0a16_14 rfl (lv_at hl 3 rfl) ?_
      refine va_last hx hb hK.1 hP hD hS 0 1 rfl rfl (vp_in_nI hlt hn) dJ7_fill_d0a16_15 (fun H locs hP hD hS => ?_)
      have ef : vp_updL (fun j => if j < i then v else f j) (nI i).toNatClampNeg v = fun j => if j < i + 1 then v else f j := by
        funext j
        rw [nI_clamp (Nat.lt_trans hlt hn)]
        skip
        unfold vp_updL
        by_cases h1 : j = i
        · subst h1
          rw [if_pos rfl, if_pos (by omega)]
        · rw [if_neg h1]
          show (if j < i then v else f j) = _
          by_cases h2 : j < i
          · rw [if_pos h2, if_pos (by omega)]
          · rw [if_neg h2, if_neg (by omega)]
      have hP : va_P D vwCl [(h0, .inl (g 1, n, .inr (.inl (fun j => if j < i + 1 then v else f j))))] H := by rw [← ef]; exact hP
      have hD : va_D (va_A [(h0, .inl (g 1, n, .inr (.inl (f))))] s.heap.size) [(h0, .inl (g 1, n, .inr (.inl (fun j => if j < i + 1 then v else f j))))] := by rw [← ef]; exact hD
      refine lv_iinc (v := nI (i + 1)) (lv' := [(3, .int (nI (i + 1))), (4, .int (nI n)), (0, .ref h0), (1, .long v)]) hx hb dJ7_fill_d0a16_16 hl (k := 1) rfl (nI_1 i) (by decide) rfl (fun ls hl => ?_)
      refine lv_goto (tgt := 6) hx hb dJ7_fill_d0a16_19 (by decide) ?_
      exact ih (i + 1) (by omega) H locs hP hD hS ls (lv_sub hl [1, 0, 2, 3] rfl)
  refine lv_iconst (v := 0) hx hb dJ7_fill_d0a16_0 (by decide) ?_
  refine lv_istore_n (lv' := [(3, .int 0), (0, .ref h0), (1, .long v)]) hx hb dJ7_fill_d0a16_1 rfl hl (by decide) rfl (fun ls hl => ?_)
  refine lv_aload_n hx hb dJ7_fill_d0a16_2 rfl (lv_at hl 1 rfl) ?_
  refine va_alen (v := nI n) hx hb hK.1 hP 0 rfl (t0 := 1) rfl rfl dJ7_fill_d0a16_3 ?_
  refine lv_istore (lv' := [(4, .int (nI n)), (3, .int 0), (0, .ref h0), (1, .long v)]) hx hb dJ7_fill_d0a16_4 hl (by decide) rfl (fun ls hl => ?_)
  have e0 : (fun j => if j < 0 then v else f j) = f := by funext j; rw [if_neg (Nat.not_lt_zero j)]
  exact loop n 0 (by omega) s.heap [] (by rw [e0]; exact hP) (by rw [e0]; exact hD) hS ls hl
set_option maxHeartbeats 4000000 in
set_option maxRecDepth 100000 in
theorem k_X10_clearLanes (l : Launch) (D : va_G) (g : Nat → ClassId) (z0 sz : Nat) (a : Nat → Nat) : Met l yX10_clearLanes (.code yX10_clearLanes cX10_clearLanes 2 none :: TG) (rmk 1 0 0 24) (va_Pc [.ref (a 4), .int 0] (PP D g z0 sz [((a 4), f_words a), ((a 38), .inl (g 1, 12, .inr (.inl (fun _ => 0)))), ((a 39), .inl (g 1, 12, .inr (.inl (fun _ => 0))))])) (va_Qv (fun (u : Unit) => True) (fun (u : Unit) (t : State) => va_P D vwCl [((a 4), .inr (16, [.ref (a 1), .ref (a 2), .ref (a 38), .ref (a 39), .ref (a 40), .ref (a 41), .ref (a 42), .ref (a 43), .ref (a 44), .ref (a 45), .ref (a 46), .ref (a 47), .long 0, .long 0, .long 0, .int 0, .int (-1)])), ((a 38), .inl (g 1, 12, .inr (.inl (fun _ => 0)))), ((a 39), .inl (g 1, 12, .inr (.inl (fun _ => 0))))] t.heap ∧ va_D (va_A [((a 4), f_words a), ((a 38), .inl (g 1, 12, .inr (.inl (fun _ => 0)))), ((a 39), .inl (g 1, 12, .inr (.inl (fun _ => 0))))] sz) [((a 4), .inr (16, [.ref (a 1), .ref (a 2), .ref (a 38), .ref (a 39), .ref (a 40), .ref (a 41), .ref (a 42), .ref (a 43), .ref (a 44), .ref (a 45), .ref (a 46), .ref (a 47), .long 0, .long 0, .long 0, .int 0, .int (-1)])), ((a 38), .inl (g 1, 12, .inr (.inl (fun _ => 0)))), ((a 39), .inl (g 1, 12, .inr (.inl (fun _ => 0))))]) (va_A [((a 4), f_words a), ((a 38), .inl (g 1, 12, .inr (.inl (fun _ => 0)))), ((a 39), .inl (g 1, 12, .inr (.inl (fun _ => 0))))] sz)) 0 0 (va_A [((a 4), f_words a), ((a 38), .inl (g 1, 12, .inr (.inl (fun _ => 0)))), ((a 39), .inl (g 1, 12, .inr (.inl (fun _ => 0))))] sz) := by
  refine met0 (cc := cX10_clearLanes) (n := 2) (by decide) (Nat.le_of_ble_eq_true rfl) ?_
  intro p e s m args below meth c hx hb hr hml hown ht hlocks hnm hP0 hD0 hK hZ hsz hz ls hl
  subst hsz
  have hA : ∀ q : Nat, s.heap.size ≤ q → va_A [((a 4), f_words a), ((a 38), .inl (g 1, 12, .inr (.inl (fun _ => 0)))), ((a 39), .inl (g 1, 12, .inr (.inl (fun _ => 0))))] s.heap.size q := Anw
  have hAz : ∀ q, va_A [((a 4), f_words a), ((a 38), .inl (g 1, 12, .inr (.inl (fun _ => 0)))), ((a 39), .inl (g 1, 12, .inr (.inl (fun _ => 0))))] s.heap.size q → z0 ≤ q := Awz hz hD0
  have hS : va_S (va_A [((a 4), f_words a), ((a 38), .inl (g 1, 12, .inr (.inl (fun _ => 0)))), ((a 39), .inl (g 1, 12, .inr (.inl (fun _ => 0))))] s.heap.size) s.heap s.heap [] := va_S.rf
  have hD : va_D (va_A [((a 4), f_words a), ((a 38), .inl (g 1, 12, .inr (.inl (fun _ => 0)))), ((a 39), .inl (g 1, 12, .inr (.inl (fun _ => 0))))] s.heap.size) [((a 4), f_words a), ((a 38), .inl (g 1, 12, .inr (.inl (fun _ => 0)))), ((a 39), .inl (g 1, 12, .inr (.inl (fun _ => 0))))] := hD0.self
  have hP : va_P D vwCl [((a 4), f_words a), ((a 38), .inl (g 1, 12, .inr (.inl (fun _ => 0)))), ((a 39), .inl (g 1, 12, .inr (.inl (fun _ => 0))))] s.heap := hP0
  have hl : lv_has ls 2 [(0, .ref (a 4)), (1, .int 0)] := hl
  refine lv_aload_n hx hb dX10_clearLanes_0 rfl (lv_at hl 0 rfl) ?_
  refine lv_iload_n hx hb dX10_clearLanes_1 rfl (lv_at hl 1 rfl) ?_
  refine lv_bipush (v := 64) hx hb dX10_clearLanes_2 (by decide) ?_
  refine lv_icmp_lt (tgt := 13) hx hb dX10_clearLanes_4 (by decide) (fun c_1 => ?_) (fun c_1 => ?_)
  · refine lv_lconst (v := 1) hx hb dX10_clearLanes_13 (by decide) ?_
    refine lv_iload_n hx hb dX10_clearLanes_14 rfl (lv_at hl 1 rfl) ?_
    refine lv_lshl (v := 1) hx hb dX10_clearLanes_15 (by decide) ?_
    refine lv_lconst (v := 1) hx hb dX10_clearLanes_16 (by decide) ?_
    refine lv_lsub hx hb dX10_clearLanes_17 ?_
    refine r_topl (v := 0) (by decide) ?_
    refine va_put (D := D) (ci := 16) (v := .long 0) (ty := .long) (C := RX10) (T := TX10) (N := 17) hx hb ht in_X10 tyX10 tyX10_ok nmX10 hown hK.1 hP hD hS 0 rfl rfl 12 (by decide) (ht _ w_3) (fun _ h9 => h9) rfl (by decide +kernel) rfl rfl (Nat.le_of_ble_eq_true rfl) dX10_clearLanes_18 (fun H locs hP hD hS => ?_)
    have hP : va_P D vwCl [((a 4), .inr (16, [.ref (a 1), .ref (a 2), .ref (a 38), .ref (a 39), .ref (a 40), .ref (a 41), .ref (a 42), .ref (a 43), .ref (a 44), .ref (a 45), .ref (a 46), .ref (a 47), .long 0, .long 0, .long 0, .int 0, .int (-1)])), ((a 38), .inl (g 1, 12, .inr (.inl (fun _ => 0)))), ((a 39), .inl (g 1, 12, .inr (.inl (fun _ => 0))))] H := hP
    have hD : va_D (va_A [((a 4), f_words a), ((a 38), .inl (g 1, 12, .inr (.inl (fun _ => 0)))), ((a 39), .inl (g 1, 12, .inr (.inl (fun _ => 0))))] s.heap.size) [((a 4), .inr (16, [.ref (a 1), .ref (a 2), .ref (a 38), .ref (a 39), .ref (a 40), .ref (a 41), .ref (a 42), .ref (a 43), .ref (a 44), .ref (a 45), .ref (a 46), .ref (a 47), .long 0, .long 0, .long 0, .int 0, .int (-1)])), ((a 38), .inl (g 1, 12, .inr (.inl (fun _ => 0)))), ((a 39), .inl (g 1, 12, .inr (.inl (fun _ => 0))))] := hD
    refine lv_aload_n hx hb dX10_clearLanes_21 rfl (lv_at hl 0 rfl) ?_
    refine va_get (D := D) (ci := 16) (v := .ref (a 38)) (C := RX10) (T := TX10) (N := 17) hx hb ht in_X10 hown hK.1 hP 0 rfl rfl 2 (by decide) (ht _ w_4) (fun _ h9 => h9) rfl dX10_clearLanes_22 ?_
    refine lv_lconst (v := 0) hx hb dX10_clearLanes_25 (by decide) ?_
    have hPc : va_P D vwCl [((a 38), .inl (g 1, 12, .inr (.inl (fun _ => 0))))] _ := hP.sub (ws' := [((a 38), .inl (g 1, 12, .inr (.inl (fun _ => 0))))]) [1] rfl
    have hDc : va_D (fun q => z0 ≤ q) [((a 38), .inl (g 1, 12, .inr (.inl (fun _ => 0))))] := (hD.to hAz).pick (ws' := [((a 38), .inl (g 1, 12, .inr (.inl (fun _ => 0))))]) [1] (by decide) rfl
    have hFc := va_free (wc := [((a 38), .inl (g 1, 12, .inr (.inl (fun _ => 0))))]) hD hS hA [1] rfl
    refine va_callv (va_runS (As := [.ref (a 38), .long 0]) (rest := []) ⟨hx, hb, hml, hown, ht⟩ (k_fillJ l D g z0 _ (a 38) 12 (fun _ => 0) 0 (by decide)) (va_cwS 2 ht (gS w_5 w_7 w_8 w_6) rfl rfl rfl (by decide +kernel) (le2 rfl rfl)) ⟨PP.blind, PP.mk' hK hZ hz hAz hS hPc hDc⟩ rfl rfl hl.1 rfl (lv_room (Nat.le_of_ble_eq_true rfl)) dX10_clearLanes_26 (le2 rfl rfl)) hS (fun q _ h => hFc q h) hFc (fun u t H locs ht1 hvm hw hB hz1 hk1 hS => ?_)
    obtain ⟨hP1, hD1⟩ := hB
    rw [ht1] at hP1
    obtain ⟨hP, hD⟩ := va_join (wr := [((a 4), .inr (16, [.ref (a 1), .ref (a 2), .ref (a 38), .ref (a 39), .ref (a 40), .ref (a 41), .ref (a 42), .ref (a 43), .ref (a 44), .ref (a 45), .ref (a 46), .ref (a 47), .long 0, .long 0, .long 0, .int 0, .int (-1)])), ((a 39), .inl (g 1, 12, .inr (.inl (fun _ => 0))))]) (w1 := [((a 38), .inl (g 1, 12, .inr (.inl (fun _ => 0))))]) hP hD [1] [0, 2] rfl rfl (by decide) (by decide) hk1 hFc hP1 hD1
    have hP : va_P D vwCl [((a 4), .inr (16, [.ref (a 1), .ref (a 2), .ref (a 38), .ref (a 39), .ref (a 40), .ref (a 41), .ref (a 42), .ref (a 43), .ref (a 44), .ref (a 45), .ref (a 46), .ref (a 47), .long 0, .long 0, .long 0, .int 0, .int (-1)])), ((a 39), .inl (g 1, 12, .inr (.inl (fun _ => 0)))), ((a 38), .inl (g 1, 12, .inr (.inl (fun _ => 0))))] H := hP
    have hD : va_D (va_A [((a 4), f_words a), ((a 38), .inl (g 1, 12, .inr (.inl (fun _ => 0)))), ((a 39), .inl (g 1, 12, .inr (.inl (fun _ => 0))))] s.heap.size) [((a 4), .inr (16, [.ref (a 1), .ref (a 2), .ref (a 38), .ref (a 39), .ref (a 40), .ref (a 41), .ref (a 42), .ref (a 43), .ref (a 44), .ref (a 45), .ref (a 46), .ref (a 47), .long 0, .long 0, .long 0, .int 0, .int (-1)])), ((a 39), .inl (g 1, 12, .inr (.inl (fun _ => 0)))), ((a 38), .inl (g 1, 12, .inr (.inl (fun _ => 0))))] := hD
    refine lv_aload_n hx hb dX10_clearLanes_29 rfl (lv_at hl 0 rfl) ?_
    refine va_get (D := D) (ci := 16) (v := .ref (a 39)) (C := RX10) (T := TX10) (N := 17) hx hb ht in_X10 hown hK.1 hP 0 rfl rfl 3 (by decide) (ht _ w_9) (fun _ h9 => h9) rfl dX10_clearLanes_30 ?_
    refine lv_lconst (v := 0) hx hb dX10_clearLanes_33 (by decide) ?_
    have hPc : va_P D vwCl [((a 39), .inl (g 1, 12, .inr (.inl (fun _ => 0))))] _ := hP.sub (ws' := [((a 39), .inl (g 1, 12, .inr (.inl (fun _ => 0))))]) [1] rfl
    have hDc : va_D (fun q => z0 ≤ q) [((a 39), .inl (g 1, 12, .inr (.inl (fun _ => 0))))] := (hD.to hAz).pick (ws' := [((a 39), .inl (g 1, 12, .inr (.inl (fun _ => 0))))]) [1] (by decide) rfl
    have hFc := va_free (wc := [((a 39), .inl (g 1, 12, .inr (.inl (fun _ => 0))))]) hD hS hA [1] rfl
    refine va_callv (va_runS (As := [.ref (a 39), .long 0]) (rest := []) ⟨hx, hb, hml, hown, ht⟩ (k_fillJ l D g z0 _ (a 39) 12 (fun _ => 0) 0 (by decide)) (va_cwS 2 ht (gS w_5 w_7 w_8 w_6) rfl rfl rfl (by decide +kernel) (le2 rfl rfl)) ⟨PP.blind, PP.mk' hK hZ hz hAz hS hPc hDc⟩ rfl rfl hl.1 rfl (lv_room (Nat.le_of_ble_eq_true rfl)) dX10_clearLanes_34 (le2 rfl rfl)) hS (fun q _ h => hFc q h) hFc (fun u t H locs ht1 hvm hw hB hz1 hk1 hS => ?_)
    obtain ⟨hP1, hD1⟩ := hB
    rw [ht1] at hP1
    obtain ⟨hP, hD⟩ := va_join (wr := [((a 4), .inr (16, [.ref (a 1), .ref (a 2), .ref (a 38), .ref (a 39), .ref (a 40), .ref (a 41), .ref (a 42), .ref (a 43), .ref (a 44), .ref (a 45), .ref (a 46), .ref (a 47), .long 0, .long 0, .long 0, .int 0, .int (-1)])), ((a 38), .inl (g 1, 12, .inr (.inl (fun _ => 0))))]) (w1 := [((a 39), .inl (g 1, 12, .inr (.inl (fun _ => 0))))]) hP hD [1] [0, 2] rfl rfl (by decide) (by decide) hk1 hFc hP1 hD1
    have hP : va_P D vwCl [((a 4), .inr (16, [.ref (a 1), .ref (a 2), .ref (a 38), .ref (a 39), .ref (a 40), .ref (a 41), .ref (a 42), .ref (a 43), .ref (a 44), .ref (a 45), .ref (a 46), .ref (a 47), .long 0, .long 0, .long 0, .int 0, .int (-1)])), ((a 38), .inl (g 1, 12, .inr (.inl (fun _ => 0)))), ((a 39), .inl (g 1, 12, .inr (.inl (fun _ => 0))))] H := hP
    have hD : va_D (va_A [((a 4), f_words a), ((a 38), .inl (g 1, 12, .inr (.inl (fun _ => 0)))), ((a 39), .inl (g 1, 12, .inr (.inl (fun _ => 0))))] s.heap.size) [((a 4), .inr (16, [.ref (a 1), .ref (a 2), .ref (a 38), .ref (a 39), .ref (a 40), .ref (a 41), .ref (a 42), .ref (a 43), .ref (a 44), .ref (a 45), .ref (a 46), .ref (a 47), .long 0, .long 0, .long 0, .int 0, .int (-1)])), ((a 38), .inl (g 1, 12, .inr (.inl (fun _ => 0)))), ((a 39), .inl (g 1, 12, .inr (.inl (fun _ => 0))))] := hD
    have hP9 := hP.sub (ws' := [((a 4), .inr (16, [.ref (a 1), .ref (a 2), .ref (a 38), .ref (a 39), .ref (a 40), .ref (a 41), .ref (a 42), .ref (a 43), .ref (a 44), .ref (a 45), .ref (a 46), .ref (a 47), .long 0, .long 0, .long 0, .int 0, .int (-1)])), ((a 38), .inl (g 1, 12, .inr (.inl (fun _ => 0)))), ((a 39), .inl (g 1, 12, .inr (.inl (fun _ => 0))))]) [0, 1, 2] rfl
    have hD9 := hD.sub (ws' := [((a 4), .inr (16, [.ref (a 1), .ref (a 2), .ref (a 38), .ref (a 39), .ref (a 40), .ref (a 41), .ref (a 42), .ref (a 43), .ref (a 44), .ref (a 45), .ref (a 46), .ref (a 47), .long 0, .long 0, .long 0, .int 0, .int (-1)])), ((a 38), .inl (g 1, 12, .inr (.inl (fun _ => 0)))), ((a 39), .inl (g 1, 12, .inr (.inl (fun _ => 0))))]) [0, 1, 2] (by decide) rfl
    refine W.widen (k := 0) (n := 0) (Nat.le_of_ble_eq_true rfl) (Nat.le_of_ble_eq_true rfl) ?_
    exact W.vret hx hb hr (fun t ht9 hW9 => ⟨⟨(), rfl, trivial, ⟨(by rw [ht9]; exact hP9), hD9⟩⟩, hS.F ht9⟩) hS.2.2 dX10_clearLanes_37 hlocks
  · exact absurd c_1 (by decide)
set_option maxHeartbeats 4000000 in
set_option maxRecDepth 100000 in
theorem k_X10_loadRows (l : Launch) (D : va_G) (g : Nat → ClassId) (z0 sz : Nat) (a : Nat → Nat) : Met l yX10_loadRows (.code yX10_loadRows cX10_loadRows 4 none :: TG) (rmk 2 0 0 45) (va_Pc [.ref (a 4), .ref (a 3)] (PP D g z0 sz [((a 3), f_rows a), ((a 4), f_words a), ((a 38), .inl (g 1, 12, .inr (.inl (fun _ => 0)))), ((a 39), .inl (g 1, 12, .inr (.inl (fun _ => 0))))])) (va_Qv (fun (u : Unit) => True) (fun (u : Unit) (t : State) => va_P D vwCl [((a 3), f_rows a), ((a 4), f_words a), ((a 38), .inl (g 1, 12, .inr (.inl (fun _ => 0)))), ((a 39), .inl (g 1, 12, .inr (.inl (fun _ => 0))))] t.heap ∧ va_D (va_A [((a 3), f_rows a), ((a 4), f_words a), ((a 38), .inl (g 1, 12, .inr (.inl (fun _ => 0)))), ((a 39), .inl (g 1, 12, .inr (.inl (fun _ => 0))))] sz) [((a 3), f_rows a), ((a 4), f_words a), ((a 38), .inl (g 1, 12, .inr (.inl (fun _ => 0)))), ((a 39), .inl (g 1, 12, .inr (.inl (fun _ => 0))))]) (va_A [((a 3), f_rows a), ((a 4), f_words a), ((a 38), .inl (g 1, 12, .inr (.inl (fun _ => 0)))), ((a 39), .inl (g 1, 12, .inr (.inl (fun _ => 0))))] sz)) 0 0 (va_A [((a 3), f_rows a), ((a 4), f_words a), ((a 38), .inl (g 1, 12, .inr (.inl (fun _ => 0)))), ((a 39), .inl (g 1, 12, .inr (.inl (fun _ => 0))))] sz) := by
  refine met0 (cc := cX10_loadRows) (n := 4) (by decide) (Nat.le_of_ble_eq_true rfl) ?_
  intro p e s m args below meth c hx hb hr hml hown ht hlocks hnm hP0 hD0 hK hZ hsz hz ls hl
  subst hsz
  have hA : ∀ q : Nat, s.heap.size ≤ q → va_A [((a 3), f_rows a), ((a 4), f_words a), ((a 38), .inl (g 1, 12, .inr (.inl (fun _ => 0)))), ((a 39), .inl (g 1, 12, .inr (.inl (fun _ => 0))))] s.heap.size q := Anw
  have hAz : ∀ q, va_A [((a 3), f_rows a), ((a 4), f_words a), ((a 38), .inl (g 1, 12, .inr (.inl (fun _ => 0)))), ((a 39), .inl (g 1, 12, .inr (.inl (fun _ => 0))))] s.heap.size q → z0 ≤ q := Awz hz hD0
  have hS : va_S (va_A [((a 3), f_rows a), ((a 4), f_words a), ((a 38), .inl (g 1, 12, .inr (.inl (fun _ => 0)))), ((a 39), .inl (g 1, 12, .inr (.inl (fun _ => 0))))] s.heap.size) s.heap s.heap [] := va_S.rf
  have hD : va_D (va_A [((a 3), f_rows a), ((a 4), f_words a), ((a 38), .inl (g 1, 12, .inr (.inl (fun _ => 0)))), ((a 39), .inl (g 1, 12, .inr (.inl (fun _ => 0))))] s.heap.size) [((a 3), f_rows a), ((a 4), f_words a), ((a 38), .inl (g 1, 12, .inr (.inl (fun _ => 0)))), ((a 39), .inl (g 1, 12, .inr (.inl (fun _ => 0))))] := hD0.self
  have hP : va_P D vwCl [((a 3), f_rows a), ((a 4), f_words a), ((a 38), .inl (g 1, 12, .inr (.inl (fun _ => 0)))), ((a 39), .inl (g 1, 12, .inr (.inl (fun _ => 0))))] s.heap := hP0
  have hl : lv_has ls 4 [(0, .ref (a 4)), (1, .ref (a 3))] := hl
  refine lv_aload_n hx hb dX10_loadRows_0 rfl (lv_at hl 0 rfl) ?_
  refine lv_aload_n hx hb dX10_loadRows_1 rfl (lv_at hl 1 rfl) ?_
  refine va_get (D := D) (ci := 13) (v := .int 0) (C := RX7) (T := TX7) (N := 6) hx hb ht in_X7 hown hK.1 hP 0 rfl rfl 5 (by decide) (ht _ w_2) (fun _ h9 => h9) rfl dX10_loadRows_2 ?_
  have hPc : va_P D vwCl [((a 4), f_words a), ((a 38), .inl (g 1, 12, .inr (.inl (fun _ => 0)))), ((a 39), .inl (g 1, 12, .inr (.inl (fun _ => 0))))] _ := hP.sub (ws' := [((a 4), f_words a), ((a 38), .inl (g 1, 12, .inr (.inl (fun _ => 0)))), ((a 39), .inl (g 1, 12, .inr (.inl (fun _ => 0))))]) [1, 2, 3] rfl
  have hDc : va_D (fun q => z0 ≤ q) [((a 4), f_words a), ((a 38), .inl (g 1, 12, .inr (.inl (fun _ => 0)))), ((a 39), .inl (g 1, 12, .inr (.inl (fun _ => 0))))] := (hD.to hAz).pick (ws' := [((a 4), f_words a), ((a 38), .inl (g 1, 12, .inr (.inl (fun _ => 0)))), ((a 39), .inl (g 1, 12, .inr (.inl (fun _ => 0))))]) [1, 2, 3] (by decide) rfl
  have hFc := va_free (wc := [((a 4), f_words a), ((a 38), .inl (g 1, 12, .inr (.inl (fun _ => 0)))), ((a 39), .inl (g 1, 12, .inr (.inl (fun _ => 0))))]) hD hS hA [1, 2, 3] rfl
  refine va_callv (va_runV (As := [.int 0]) (rest := []) ⟨hx, hb, hml, hown, ht⟩ (k_X10_clearLanes l D g z0 _ a) (cwV 1 ht (gV w_10 w_12 w_13 w_14 w_11) rfl rfl rfl (by decide +kernel) (le2 rfl rfl)) ⟨PP.blind, va_recv hK.1 hP (ci := 16) (q0 := 1) rfl rfl, PP.mk' hK hZ hz hAz hS hPc hDc⟩ rfl rfl hl.1 rfl (lv_room (Nat.le_of_ble_eq_true rfl)) dX10_loadRows_5 (le2 rfl rfl)) hS (fun q _ h => hFc q h) hFc (fun u t H locs ht1 hvm hw hB hz1 hk1 hS => ?_)
  obtain ⟨hP1, hD1⟩ := hB
  rw [ht1] at hP1
  obtain ⟨hP, hD⟩ := va_join (wr := [((a 3), f_rows a)]) (w1 := [((a 4), f_words a), ((a 38), .inl (g 1, 12, .inr (.inl (fun _ => 0)))), ((a 39), .inl (g 1, 12, .inr (.inl (fun _ => 0))))]) hP hD [1, 2, 3] [0] rfl rfl (by decide) (by decide) hk1 hFc hP1 hD1
  have hP : va_P D vwCl [((a 3), f_rows a), ((a 4), f_words a), ((a 38), .inl (g 1, 12, .inr (.inl (fun _ => 0)))), ((a 39), .inl (g 1, 12, .inr (.inl (fun _ => 0))))] H := hP
  have hD : va_D (va_A [((a 3), f_rows a), ((a 4), f_words a), ((a 38), .inl (g 1, 12, .inr (.inl (fun _ => 0)))), ((a 39), .inl (g 1, 12, .inr (.inl (fun _ => 0))))] s.heap.size) [((a 3), f_rows a), ((a 4), f_words a), ((a 38), .inl (g 1, 12, .inr (.inl (fun _ => 0)))), ((a 39), .inl (g 1, 12, .inr (.inl (fun _ => 0))))] := hD
  refine lv_iconst (v := 0) hx hb dX10_loadRows_8 (by decide) ?_
  refine lv_istore_n (lv' := [(2, .int 0), (0, .ref (a 4)), (1, .ref (a 3))]) hx hb dX10_loadRows_9 rfl hl (by decide) rfl (fun ls hl => ?_)
  refine lv_iload_n hx hb dX10_loadRows_10 rfl (lv_at hl 0 rfl) ?_
  refine lv_aload_n hx hb dX10_loadRows_11 rfl (lv_at hl 2 rfl) ?_
  refine va_get (D := D) (ci := 13) (v := .int 0) (C := RX7) (T := TX7) (N := 6) hx hb ht in_X7 hown hK.1 hP 0 rfl rfl 5 (by decide) (ht _ w_2) (fun _ h9 => h9) rfl dX10_loadRows_12 ?_
  refine lv_icmp_ge (tgt := 72) hx hb dX10_loadRows_15 (by decide) (fun c_1 => ?_) (fun c_1 => ?_)
  · have hP9 := hP.sub (ws' := [((a 3), f_rows a), ((a 4), f_words a), ((a 38), .inl (g 1, 12, .inr (.inl (fun _ => 0)))), ((a 39), .inl (g 1, 12, .inr (.inl (fun _ => 0))))]) [0, 1, 2, 3] rfl
    have hD9 := hD.sub (ws' := [((a 3), f_rows a), ((a 4), f_words a), ((a 38), .inl (g 1, 12, .inr (.inl (fun _ => 0)))), ((a 39), .inl (g 1, 12, .inr (.inl (fun _ => 0))))]) [0, 1, 2, 3] (by decide) rfl
    refine W.widen (k := 0) (n := 0) (Nat.le_of_ble_eq_true rfl) (Nat.le_of_ble_eq_true rfl) ?_
    exact W.vret hx hb hr (fun t ht9 hW9 => ⟨⟨(), rfl, trivial, ⟨(by rw [ht9]; exact hP9), hD9⟩⟩, hS.F ht9⟩) hS.2.2 dX10_loadRows_72 hlocks
  · exact absurd c_1 (by decide)
set_option maxHeartbeats 4000000 in
set_option maxRecDepth 100000 in
theorem k_X10_runGood (l : Launch) (D : va_G) (g : Nat → ClassId) (z0 sz : Nat) (a : Nat → Nat) : Met l yX10_runGood (.code yX10_runGood cX10_runGood 5 none :: TG) (rmk 0 0 0 0) (va_Pc [.ref (a 4)] (PP D g z0 sz [((a 4), f_words a), ((a 1), f_net a)])) (va_Qv (fun (u : Unit) => True) (fun (u : Unit) (t : State) => va_P D vwCl [((a 4), .inr (16, [.ref (a 1), .ref (a 2), .ref (a 38), .ref (a 39), .ref (a 40), .ref (a 41), .ref (a 42), .ref (a 43), .ref (a 44), .ref (a 45), .ref (a 46), .ref (a 47), .long 0, .long 0, .long 0, .int 0, .int (-1)])), ((a 1), f_net a)] t.heap ∧ va_D (va_A [((a 4), f_words a), ((a 1), f_net a)] sz) [((a 4), .inr (16, [.ref (a 1), .ref (a 2), .ref (a 38), .ref (a 39), .ref (a 40), .ref (a 41), .ref (a 42), .ref (a 43), .ref (a 44), .ref (a 45), .ref (a 46), .ref (a 47), .long 0, .long 0, .long 0, .int 0, .int (-1)])), ((a 1), f_net a)]) (va_A [((a 4), f_words a), ((a 1), f_net a)] sz)) 0 0 (va_A [((a 4), f_words a), ((a 1), f_net a)] sz) := by
  refine met0 (cc := cX10_runGood) (n := 5) (by decide) (Nat.le_of_ble_eq_true rfl) ?_
  intro p e s m args below meth c hx hb hr hml hown ht hlocks hnm hP0 hD0 hK hZ hsz hz ls hl
  subst hsz
  have hA : ∀ q : Nat, s.heap.size ≤ q → va_A [((a 4), f_words a), ((a 1), f_net a)] s.heap.size q := Anw
  have hAz : ∀ q, va_A [((a 4), f_words a), ((a 1), f_net a)] s.heap.size q → z0 ≤ q := Awz hz hD0
  have hS : va_S (va_A [((a 4), f_words a), ((a 1), f_net a)] s.heap.size) s.heap s.heap [] := va_S.rf
  have hD : va_D (va_A [((a 4), f_words a), ((a 1), f_net a)] s.heap.size) [((a 4), f_words a), ((a 1), f_net a)] := hD0.self
  have hP : va_P D vwCl [((a 4), f_words a), ((a 1), f_net a)] s.heap := hP0
  have hl : lv_has ls 5 [(0, .ref (a 4))] := hl
  refine lv_aload_n hx hb dX10_runGood_0 rfl (lv_at hl 0 rfl) ?_
  refine lv_lconst (v := 0) hx hb dX10_runGood_1 (by decide) ?_
  refine va_put (D := D) (ci := 16) (v := .long 0) (ty := .long) (C := RX10) (T := TX10) (N := 17) hx hb ht in_X10 tyX10 tyX10_ok nmX10 hown hK.1 hP hD hS 0 rfl rfl 14 (by decide) (ht _ w_19) (fun _ h9 => h9) rfl (by decide +kernel) rfl rfl (Nat.le_of_ble_eq_true rfl) dX10_runGood_2 (fun H locs hP hD hS => ?_)
  have hP : va_P D vwCl [((a 4), .inr (16, [.ref (a 1), .ref (a 2), .ref (a 38), .ref (a 39), .ref (a 40), .ref (a 41), .ref (a 42), .ref (a 43), .ref (a 44), .ref (a 45), .ref (a 46), .ref (a 47), .long 0, .long 0, .long 0, .int 0, .int (-1)])), ((a 1), f_net a)] H := hP
  have hD : va_D (va_A [((a 4), f_words a), ((a 1), f_net a)] s.heap.size) [((a 4), .inr (16, [.ref (a 1), .ref (a 2), .ref (a 38), .ref (a 39), .ref (a 40), .ref (a 41), .ref (a 42), .ref (a 43), .ref (a 44), .ref (a 45), .ref (a 46), .ref (a 47), .long 0, .long 0, .long 0, .int 0, .int (-1)])), ((a 1), f_net a)] := hD
  refine lv_iconst (v := 0) hx hb dX10_runGood_5 (by decide) ?_
  refine lv_istore_n (lv' := [(1, .int 0), (0, .ref (a 4))]) hx hb dX10_runGood_6 rfl hl (by decide) rfl (fun ls hl => ?_)
  refine lv_iload_n hx hb dX10_runGood_7 rfl (lv_at hl 0 rfl) ?_
  refine lv_aload_n hx hb dX10_runGood_8 rfl (lv_at hl 1 rfl) ?_
  refine va_get (D := D) (ci := 16) (v := .ref (a 1)) (C := RX10) (T := TX10) (N := 17) hx hb ht in_X10 hown hK.1 hP 0 rfl rfl 0 (by decide) (ht _ w_20) (fun _ h9 => h9) rfl dX10_runGood_9 ?_
  refine va_get (D := D) (ci := 12) (v := .int 0) (C := RX6) (T := TX6) (N := 18) hx hb ht in_X6 hown hK.1 hP 1 rfl rfl 12 (by decide) (ht _ w_21) (fun _ h9 => h9) rfl dX10_runGood_12 ?_
  refine lv_icmp_ge (tgt := 240) hx hb dX10_runGood_15 (by decide) (fun c_1 => ?_) (fun c_1 => ?_)
  · have hP9 := hP.sub (ws' := [((a 4), .inr (16, [.ref (a 1), .ref (a 2), .ref (a 38), .ref (a 39), .ref (a 40), .ref (a 41), .ref (a 42), .ref (a 43), .ref (a 44), .ref (a 45), .ref (a 46), .ref (a 47), .long 0, .long 0, .long 0, .int 0, .int (-1)])), ((a 1), f_net a)]) [0, 1] rfl
    have hD9 := hD.sub (ws' := [((a 4), .inr (16, [.ref (a 1), .ref (a 2), .ref (a 38), .ref (a 39), .ref (a 40), .ref (a 41), .ref (a 42), .ref (a 43), .ref (a 44), .ref (a 45), .ref (a 46), .ref (a 47), .long 0, .long 0, .long 0, .int 0, .int (-1)])), ((a 1), f_net a)]) [0, 1] (by decide) rfl
    refine W.widen (k := 0) (n := 0) (Nat.le_of_ble_eq_true rfl) (Nat.le_of_ble_eq_true rfl) ?_
    exact W.vret hx hb hr (fun t ht9 hW9 => ⟨⟨(), rfl, trivial, ⟨(by rw [ht9]; exact hP9), hD9⟩⟩, hS.F ht9⟩) hS.2.2 dX10_runGood_240 hlocks
  · exact absurd c_1 (by decide)
set_option maxHeartbeats 4000000 in
set_option maxRecDepth 100000 in
theorem k_X11_foldObserved (l : Launch) (D : va_G) (g : Nat → ClassId) (z0 sz : Nat) (a : Nat → Nat) : Met l yX11_foldObserved (.code yX11_foldObserved cX11_foldObserved 5 (some .int) :: TG) (rmk 0 0 0 0) (va_Pc [.ref (a 0)] (PP D g z0 sz [((a 0), f_x a), ((a 3), f_rows a)])) (va_Qi (fun (r : Int32) (u : Unit) => (r = 0) ∧ True) (fun (_ : Unit) (_ : State) => True) (va_A [] sz)) 0 0 (va_A [] sz) := by
  refine met0 (cc := cX11_foldObserved) (n := 5) (by decide) (Nat.le_of_ble_eq_true rfl) ?_
  intro p e s m args below meth c hx hb hr hml hown ht hlocks hnm hP0 hD0 hK hZ hsz hz ls hl
  subst hsz
  have hA : ∀ q : Nat, s.heap.size ≤ q → va_A [] s.heap.size q := Anw
  have hAz : ∀ q, va_A [] s.heap.size q → z0 ≤ q := A0z hz
  have hS : va_S (va_A [] s.heap.size) s.heap s.heap [] := va_S.rf
  have hl : lv_has ls 5 [(0, .ref (a 0))] := hl
  refine lv_iconst (v := 0) hx hb dX11_foldObserved_0 (by decide) ?_
  refine lv_istore_n (lv' := [(1, .int 0), (0, .ref (a 0))]) hx hb dX11_foldObserved_1 rfl hl (by decide) rfl (fun ls hl => ?_)
  refine lv_iconst (v := 0) hx hb dX11_foldObserved_2 (by decide) ?_
  refine lv_istore_n (lv' := [(2, .int 0), (1, .int 0), (0, .ref (a 0))]) hx hb dX11_foldObserved_3 rfl hl (by decide) rfl (fun ls hl => ?_)
  refine lv_iload_n hx hb dX11_foldObserved_4 rfl (lv_at hl 0 rfl) ?_
  refine lv_aload_n hx hb dX11_foldObserved_5 rfl (lv_at hl 2 rfl) ?_
  refine va_get (D := D) (ci := 17) (v := .ref (a 3)) (C := RX11) (T := TX11) (N := 11) hx hb ht in_X11 hown hK.1 (ro0 hP0 hS) 0 rfl rfl 2 (by decide) (ht _ w_1) (fun _ h9 => h9) rfl dX11_foldObserved_6 ?_
  refine va_get (D := D) (ci := 13) (v := .int 0) (C := RX7) (T := TX7) (N := 6) hx hb ht in_X7 hown hK.1 (ro0 hP0 hS) 1 rfl rfl 5 (by decide) (ht _ w_26) (fun _ h9 => h9) rfl dX11_foldObserved_9 ?_
  refine lv_icmp_ge (tgt := 101) hx hb dX11_foldObserved_12 (by decide) (fun c_1 => ?_) (fun c_1 => ?_)
  · refine lv_iload_n hx hb dX11_foldObserved_101 rfl (lv_at hl 1 rfl) ?_
    refine W.widen (k := 0) (n := 0) (Nat.le_of_ble_eq_true rfl) (Nat.le_of_ble_eq_true rfl) ?_
    exact W.iret (v := 0) hx hb hr (fun t ht9 hW9 => ⟨⟨0, (), rfl, ⟨rfl, trivial⟩, trivial⟩, hS.F ht9⟩) hS.2.2 dX11_foldObserved_102 hlocks
  · exact absurd c_1 (by decide)
set_option maxHeartbeats 4000000 in
set_option maxRecDepth 100000 in
theorem k_X11_aliased (l : Launch) (D : va_G) (g : Nat → ClassId) (z0 sz : Nat) (a : Nat → Nat) : Met l yX11_aliased (.code yX11_aliased cX11_aliased 4 (some .int) :: TG) (rmk 3 0 0 68) (va_Pc [.ref (a 0)] (PP D g z0 sz [((a 0), f_x a), ((a 3), f_rows a), ((a 4), f_words a), ((a 38), .inl (g 1, 12, .inr (.inl (fun _ => 0)))), ((a 39), .inl (g 1, 12, .inr (.inl (fun _ => 0)))), ((a 1), f_net a), ((a 2), f_book a)])) (va_Qi (fun (r : Int32) (u : Unit) => (r = 0) ∧ True) (fun (u : Unit) (t : State) => va_P D vwCl [] t.heap ∧ va_D (va_A [((a 0), f_x a), ((a 3), f_rows a), ((a 4), f_words a), ((a 38), .inl (g 1, 12, .inr (.inl (fun _ => 0)))), ((a 39), .inl (g 1, 12, .inr (.inl (fun _ => 0)))), ((a 1), f_net a), ((a 2), f_book a)] sz) []) (va_A [((a 0), f_x a), ((a 3), f_rows a), ((a 4), f_words a), ((a 38), .inl (g 1, 12, .inr (.inl (fun _ => 0)))), ((a 39), .inl (g 1, 12, .inr (.inl (fun _ => 0)))), ((a 1), f_net a), ((a 2), f_book a)] sz)) 0 0 (va_A [((a 0), f_x a), ((a 3), f_rows a), ((a 4), f_words a), ((a 38), .inl (g 1, 12, .inr (.inl (fun _ => 0)))), ((a 39), .inl (g 1, 12, .inr (.inl (fun _ => 0)))), ((a 1), f_net a), ((a 2), f_book a)] sz) := by
  refine met0 (cc := cX11_aliased) (n := 4) (by decide) (Nat.le_of_ble_eq_true rfl) ?_
  intro p e s m args below meth c hx hb hr hml hown ht hlocks hnm hP0 hD0 hK hZ hsz hz ls hl
  subst hsz
  have hA : ∀ q : Nat, s.heap.size ≤ q → va_A [((a 0), f_x a), ((a 3), f_rows a), ((a 4), f_words a), ((a 38), .inl (g 1, 12, .inr (.inl (fun _ => 0)))), ((a 39), .inl (g 1, 12, .inr (.inl (fun _ => 0)))), ((a 1), f_net a), ((a 2), f_book a)] s.heap.size q := Anw
  have hAz : ∀ q, va_A [((a 0), f_x a), ((a 3), f_rows a), ((a 4), f_words a), ((a 38), .inl (g 1, 12, .inr (.inl (fun _ => 0)))), ((a 39), .inl (g 1, 12, .inr (.inl (fun _ => 0)))), ((a 1), f_net a), ((a 2), f_book a)] s.heap.size q → z0 ≤ q := Awz hz hD0
  have hS : va_S (va_A [((a 0), f_x a), ((a 3), f_rows a), ((a 4), f_words a), ((a 38), .inl (g 1, 12, .inr (.inl (fun _ => 0)))), ((a 39), .inl (g 1, 12, .inr (.inl (fun _ => 0)))), ((a 1), f_net a), ((a 2), f_book a)] s.heap.size) s.heap s.heap [] := va_S.rf
  have hD : va_D (va_A [((a 0), f_x a), ((a 3), f_rows a), ((a 4), f_words a), ((a 38), .inl (g 1, 12, .inr (.inl (fun _ => 0)))), ((a 39), .inl (g 1, 12, .inr (.inl (fun _ => 0)))), ((a 1), f_net a), ((a 2), f_book a)] s.heap.size) [((a 0), f_x a), ((a 3), f_rows a), ((a 4), f_words a), ((a 38), .inl (g 1, 12, .inr (.inl (fun _ => 0)))), ((a 39), .inl (g 1, 12, .inr (.inl (fun _ => 0)))), ((a 1), f_net a), ((a 2), f_book a)] := hD0.self
  have hP : va_P D vwCl [((a 0), f_x a), ((a 3), f_rows a), ((a 4), f_words a), ((a 38), .inl (g 1, 12, .inr (.inl (fun _ => 0)))), ((a 39), .inl (g 1, 12, .inr (.inl (fun _ => 0)))), ((a 1), f_net a), ((a 2), f_book a)] s.heap := hP0
  have hl : lv_has ls 4 [(0, .ref (a 0))] := hl
  refine lv_aload_n hx hb dX11_aliased_0 rfl (lv_at hl 0 rfl) ?_
  refine va_get (D := D) (ci := 17) (v := .ref (a 4)) (C := RX11) (T := TX11) (N := 11) hx hb ht in_X11 hown hK.1 hP 0 rfl rfl 3 (by decide) (ht _ w_0) (fun _ h9 => h9) rfl dX11_aliased_1 ?_
  refine lv_aload_n hx hb dX11_aliased_4 rfl (lv_at hl 0 rfl) ?_
  refine va_get (D := D) (ci := 17) (v := .ref (a 3)) (C := RX11) (T := TX11) (N := 11) hx hb ht in_X11 hown hK.1 hP 0 rfl rfl 2 (by decide) (ht _ w_1) (fun _ h9 => h9) rfl dX11_aliased_5 ?_
  have hPc : va_P D vwCl [((a 3), f_rows a), ((a 4), f_words a), ((a 38), .inl (g 1, 12, .inr (.inl (fun _ => 0)))), ((a 39), .inl (g 1, 12, .inr (.inl (fun _ => 0))))] _ := hP.sub (ws' := [((a 3), f_rows a), ((a 4), f_words a), ((a 38), .inl (g 1, 12, .inr (.inl (fun _ => 0)))), ((a 39), .inl (g 1, 12, .inr (.inl (fun _ => 0))))]) [1, 2, 3, 4] rfl
  have hDc : va_D (fun q => z0 ≤ q) [((a 3), f_rows a), ((a 4), f_words a), ((a 38), .inl (g 1, 12, .inr (.inl (fun _ => 0)))), ((a 39), .inl (g 1, 12, .inr (.inl (fun _ => 0))))] := (hD.to hAz).pick (ws' := [((a 3), f_rows a), ((a 4), f_words a), ((a 38), .inl (g 1, 12, .inr (.inl (fun _ => 0)))), ((a 39), .inl (g 1, 12, .inr (.inl (fun _ => 0))))]) [1, 2, 3, 4] (by decide) rfl
  have hFc := va_free (wc := [((a 3), f_rows a), ((a 4), f_words a), ((a 38), .inl (g 1, 12, .inr (.inl (fun _ => 0)))), ((a 39), .inl (g 1, 12, .inr (.inl (fun _ => 0))))]) hD hS hA [1, 2, 3, 4] rfl
  refine va_callv (va_runV (As := [.ref (a 3)]) (rest := []) ⟨hx, hb, hml, hown, ht⟩ (k_X10_loadRows l D g z0 _ a) (cwV 1 ht (gV w_15 w_17 w_18 w_14 w_16) rfl rfl rfl (by decide +kernel) (le2 rfl rfl)) ⟨PP.blind, va_recv hK.1 hP (ci := 16) (q0 := 2) rfl rfl, PP.mk' hK hZ hz hAz hS hPc hDc⟩ rfl rfl hl.1 rfl (lv_room (Nat.le_of_ble_eq_true rfl)) dX11_aliased_8 (le2 rfl rfl)) hS (fun q _ h => hFc q h) hFc (fun u t H locs ht1 hvm hw hB hz1 hk1 hS => ?_)
  obtain ⟨hP1, hD1⟩ := hB
  rw [ht1] at hP1
  obtain ⟨hP, hD⟩ := va_join (wr := [((a 0), f_x a), ((a 1), f_net a), ((a 2), f_book a)]) (w1 := [((a 3), f_rows a), ((a 4), f_words a), ((a 38), .inl (g 1, 12, .inr (.inl (fun _ => 0)))), ((a 39), .inl (g 1, 12, .inr (.inl (fun _ => 0))))]) hP hD [1, 2, 3, 4] [0, 5, 6] rfl rfl (by decide) (by decide) hk1 hFc hP1 hD1
  have hP : va_P D vwCl [((a 0), f_x a), ((a 1), f_net a), ((a 2), f_book a), ((a 3), f_rows a), ((a 4), f_words a), ((a 38), .inl (g 1, 12, .inr (.inl (fun _ => 0)))), ((a 39), .inl (g 1, 12, .inr (.inl (fun _ => 0))))] H := hP
  have hD : va_D (va_A [((a 0), f_x a), ((a 3), f_rows a), ((a 4), f_words a), ((a 38), .inl (g 1, 12, .inr (.inl (fun _ => 0)))), ((a 39), .inl (g 1, 12, .inr (.inl (fun _ => 0)))), ((a 1), f_net a), ((a 2), f_book a)] s.heap.size) [((a 0), f_x a), ((a 1), f_net a), ((a 2), f_book a), ((a 3), f_rows a), ((a 4), f_words a), ((a 38), .inl (g 1, 12, .inr (.inl (fun _ => 0)))), ((a 39), .inl (g 1, 12, .inr (.inl (fun _ => 0))))] := hD
  refine lv_aload_n hx hb dX11_aliased_11 rfl (lv_at hl 0 rfl) ?_
  refine va_get (D := D) (ci := 17) (v := .ref (a 4)) (C := RX11) (T := TX11) (N := 11) hx hb ht in_X11 hown hK.1 hP 0 rfl rfl 3 (by decide) (ht _ w_0) (fun _ h9 => h9) rfl dX11_aliased_12 ?_
  have hPc : va_P D vwCl [((a 4), f_words a), ((a 1), f_net a)] _ := hP.sub (ws' := [((a 4), f_words a), ((a 1), f_net a)]) [4, 1] rfl
  have hDc : va_D (fun q => z0 ≤ q) [((a 4), f_words a), ((a 1), f_net a)] := (hD.to hAz).pick (ws' := [((a 4), f_words a), ((a 1), f_net a)]) [4, 1] (by decide) rfl
  have hFc := va_free (wc := [((a 4), f_words a), ((a 1), f_net a)]) hD hS hA [4, 1] rfl
  refine va_callv (va_runV (As := []) (rest := []) ⟨hx, hb, hml, hown, ht⟩ (k_X10_runGood l D g z0 _ a) (cwV 0 ht (gV w_22 w_24 w_25 w_14 w_23) rfl rfl rfl (by decide +kernel) (le2 rfl rfl)) ⟨PP.blind, va_recv hK.1 hP (ci := 16) (q0 := 4) rfl rfl, PP.mk' hK hZ hz hAz hS hPc hDc⟩ rfl rfl hl.1 rfl (lv_room (Nat.le_of_ble_eq_true rfl)) dX11_aliased_15 (le2 rfl rfl)) hS (fun q _ h => hFc q h) hFc (fun u t H locs ht1 hvm hw hB hz1 hk1 hS => ?_)
  obtain ⟨hP1, hD1⟩ := hB
  rw [ht1] at hP1
  obtain ⟨hP, hD⟩ := va_join (wr := [((a 0), f_x a), ((a 2), f_book a), ((a 3), f_rows a), ((a 38), .inl (g 1, 12, .inr (.inl (fun _ => 0)))), ((a 39), .inl (g 1, 12, .inr (.inl (fun _ => 0))))]) (w1 := [((a 4), f_words a), ((a 1), f_net a)]) hP hD [4, 1] [0, 2, 3, 5, 6] rfl rfl (by decide) (by decide) hk1 hFc hP1 hD1
  have hP : va_P D vwCl [((a 0), f_x a), ((a 2), f_book a), ((a 3), f_rows a), ((a 38), .inl (g 1, 12, .inr (.inl (fun _ => 0)))), ((a 39), .inl (g 1, 12, .inr (.inl (fun _ => 0)))), ((a 4), f_words a), ((a 1), f_net a)] H := hP
  have hD : va_D (va_A [((a 0), f_x a), ((a 3), f_rows a), ((a 4), f_words a), ((a 38), .inl (g 1, 12, .inr (.inl (fun _ => 0)))), ((a 39), .inl (g 1, 12, .inr (.inl (fun _ => 0)))), ((a 1), f_net a), ((a 2), f_book a)] s.heap.size) [((a 0), f_x a), ((a 2), f_book a), ((a 3), f_rows a), ((a 38), .inl (g 1, 12, .inr (.inl (fun _ => 0)))), ((a 39), .inl (g 1, 12, .inr (.inl (fun _ => 0)))), ((a 4), f_words a), ((a 1), f_net a)] := hD
  refine lv_aload_n hx hb dX11_aliased_18 rfl (lv_at hl 0 rfl) ?_
  have hPc : va_P D vwCl [((a 0), f_x a), ((a 3), f_rows a)] _ := hP.sub (ws' := [((a 0), f_x a), ((a 3), f_rows a)]) [0, 2] rfl
  have hDc : va_D (fun q => z0 ≤ q) [((a 0), f_x a), ((a 3), f_rows a)] := (hD.to hAz).pick (ws' := [((a 0), f_x a), ((a 3), f_rows a)]) [0, 2] (by decide) rfl
  have hFc := AnA (ws := [((a 0), f_x a), ((a 3), f_rows a), ((a 4), f_words a), ((a 38), .inl (g 1, 12, .inr (.inl (fun _ => 0)))), ((a 39), .inl (g 1, 12, .inr (.inl (fun _ => 0)))), ((a 1), f_net a), ((a 2), f_book a)]) hS.1
  refine va_calli (va_runV (As := []) (rest := []) ⟨hx, hb, hml, hown, ht⟩ (k_X11_foldObserved l D g z0 _ a) (cwV 0 ht (gV w_27 w_29 w_30 w_31 w_28) rfl rfl rfl (by decide +kernel) (le2 rfl rfl)) ⟨PP.blind, va_recv hK.1 hP (ci := 17) (q0 := 0) rfl rfl, PP.mk' hK hZ hz hAz hS hPc hDc⟩ rfl rfl hl.1 rfl (lv_room (Nat.le_of_ble_eq_true rfl)) dX11_aliased_19 (le2 rfl rfl)) hS (fun q _ h => hFc q h) hFc (fun r u t H locs ht1 hvm hw hB hz1 hk1 hS => ?_)
  obtain ⟨rfl, hw⟩ := hw
  have hP := ro1 hP hk1
  refine lv_istore_n (lv' := [(1, .int 0), (0, .ref (a 0))]) hx hb dX11_aliased_22 rfl hl (by decide) rfl (fun ls hl => ?_)
  refine lv_iconst (v := 0) hx hb dX11_aliased_23 (by decide) ?_
  refine lv_istore_n (lv' := [(2, .int 0), (1, .int 0), (0, .ref (a 0))]) hx hb dX11_aliased_24 rfl hl (by decide) rfl (fun ls hl => ?_)
  refine lv_iconst (v := 0) hx hb dX11_aliased_25 (by decide) ?_
  refine lv_istore_n (lv' := [(3, .int 0), (2, .int 0), (1, .int 0), (0, .ref (a 0))]) hx hb dX11_aliased_26 rfl hl (by decide) rfl (fun ls hl => ?_)
  refine lv_iload_n hx hb dX11_aliased_27 rfl (lv_at hl 0 rfl) ?_
  refine lv_aload_n hx hb dX11_aliased_28 rfl (lv_at hl 3 rfl) ?_
  refine va_get (D := D) (ci := 17) (v := .ref (a 2)) (C := RX11) (T := TX11) (N := 11) hx hb ht in_X11 hown hK.1 hP 0 rfl rfl 1 (by decide) (ht _ w_32) (fun _ h9 => h9) rfl dX11_aliased_29 ?_
  refine va_get (D := D) (ci := 9) (v := .int 0) (C := RX3) (T := TX3) (N := 14) hx hb ht in_X3 hown hK.1 hP 1 rfl rfl 11 (by decide) (ht _ w_33) (fun _ h9 => h9) rfl dX11_aliased_32 ?_
  refine lv_icmp_ge (tgt := 79) hx hb dX11_aliased_35 (by decide) (fun c_1 => ?_) (fun c_1 => ?_)
  · refine lv_iload_n hx hb dX11_aliased_79 rfl (lv_at hl 1 rfl) ?_
    have hP9 := hP.sub (ws' := []) [] rfl
    have hD9 := hD.sub (ws' := []) [] (by decide) rfl
    refine W.widen (k := 0) (n := 0) (Nat.le_of_ble_eq_true rfl) (Nat.le_of_ble_eq_true rfl) ?_
    exact W.iret (v := 0) hx hb hr (fun t ht9 hW9 => ⟨⟨0, (), rfl, ⟨rfl, trivial⟩, ⟨(by rw [ht9]; exact hP9), hD9⟩⟩, hS.F ht9⟩) hS.2.2 dX11_aliased_80 hlocks
  · exact absurd c_1 (by decide)
set_option maxHeartbeats 4000000 in
set_option maxRecDepth 100000 in
theorem k_X11_needFault (l : Launch) (hfl : l.stackTraces = false) (D : va_G) (g : Nat → ClassId) (z0 sz : Nat) (a : Nat → Nat) (p0 : Int32) : vx_Met l yX11_needFault (.code yX11_needFault cX11_needFault 2 none :: TG) (rmk 6 1 6 81) (va_Pc [.ref (a 0), .int p0] (PP D g z0 sz [((a 0), f_x a), ((a 2), f_book a)])) (va_Qv (fun (u : Unit) => False) (fun (_ : Unit) (_ : State) => True) (va_A [] sz)) (vx_X (fun _ : Unit => True) (fun E _ _ => (E = "java/lang/IndexOutOfBoundsException" ∧ True)) (va_A [] sz)) 1 6 (va_A [] sz) := by
  refine vxm0 (cc := cX11_needFault) (n := 2) (by decide) (Nat.le_of_ble_eq_true rfl) ?_
  intro p e s m args below meth c hx hb hr hml htab hown ht hlocks hnm hP0 hD0 hK hZ hsz hz ls hl
  subst hsz
  have hA : ∀ q : Nat, s.heap.size ≤ q → va_A [] s.heap.size q := Anw
  have hAz : ∀ q, va_A [] s.heap.size q → z0 ≤ q := A0z hz
  have hS : va_S (va_A [] s.heap.size) s.heap s.heap [] := va_S.rf
  have hl : lv_has ls 2 [(0, .ref (a 0)), (1, .int p0)] := hl
  refine lv_iload_n hx hb dX11_needFault_0 rfl (lv_at hl 1 rfl) ?_
  refine lv_if_lt (tgt := 15) hx hb dX11_needFault_1 (by decide) (fun c_1 => ?_) (fun c_1 => ?_)
  · exact thr0 hx hb hfl hown ht hK.2.2 hZ hAz hS hl hml htab hlocks (by decide +kernel) w_35 w_36 at_X11_102 dX11_needFault_15 dX11_needFault_18 dX11_needFault_19 dX11_needFault_22 rfl rfl rfl rfl (fun t _ hF => ⟨(), trivial, ⟨rfl, trivial⟩, hF⟩) (fun _ h => h) rfl rfl
  · refine lv_iload_n hx hb dX11_needFault_4 rfl (lv_at hl 1 rfl) ?_
    refine lv_aload_n hx hb dX11_needFault_5 rfl (lv_at hl 0 rfl) ?_
    refine va_get (D := D) (ci := 17) (v := .ref (a 2)) (C := RX11) (T := TX11) (N := 11) hx hb ht in_X11 hown hK.1 (ro0 hP0 hS) 0 rfl rfl 1 (by decide) (ht _ w_32) (fun _ h9 => h9) rfl dX11_needFault_6 ?_
    refine va_get (D := D) (ci := 9) (v := .int 0) (C := RX3) (T := TX3) (N := 14) hx hb ht in_X3 hown hK.1 (ro0 hP0 hS) 1 rfl rfl 10 (by decide) (ht _ w_34) (fun _ h9 => h9) rfl dX11_needFault_9 ?_
    refine lv_icmp_lt (tgt := 23) hx hb dX11_needFault_12 (by decide) (fun c_2 => ?_) (fun c_2 => ?_)
    · exact absurd c_2 c_1
    · exact thr0 hx hb hfl hown ht hK.2.2 hZ hAz hS hl hml htab hlocks (by decide +kernel) w_35 w_36 at_X11_102 dX11_needFault_15 dX11_needFault_18 dX11_needFault_19 dX11_needFault_22 rfl rfl rfl rfl (fun t _ hF => ⟨(), trivial, ⟨rfl, trivial⟩, hF⟩) (fun _ h => h) rfl rfl
set_option maxHeartbeats 4000000 in
set_option maxRecDepth 100000 in
theorem k_X11_alike (l : Launch) (hfl : l.stackTraces = false) (D : va_G) (g : Nat → ClassId) (z0 sz : Nat) (a : Nat → Nat) (p0 : Int32) : vx_Met l yX11_alike (.code yX11_alike cX11_alike 2 (some .int) :: TG) (rmk 7 1 6 102) (va_Pc [.ref (a 0), .int p0] (PP D g z0 sz [((a 0), f_x a), ((a 2), f_book a)])) (va_Qi (fun (r : Int32) (u : Unit) => False) (fun (_ : Unit) (_ : State) => True) (va_A [] sz)) (vx_X (fun _ : Unit => True) (fun E _ _ => (E = "java/lang/IndexOutOfBoundsException" ∧ True)) (va_A [] sz)) 1 6 (va_A [] sz) := by
  refine vxm0 (cc := cX11_alike) (n := 2) (by decide) (Nat.le_of_ble_eq_true rfl) ?_
  intro p e s m args below meth c hx hb hr hml htab hown ht hlocks hnm hP0 hD0 hK hZ hsz hz ls hl
  subst hsz
  have hA : ∀ q : Nat, s.heap.size ≤ q → va_A [] s.heap.size q := Anw
  have hAz : ∀ q, va_A [] s.heap.size q → z0 ≤ q := A0z hz
  have hS : va_S (va_A [] s.heap.size) s.heap s.heap [] := va_S.rf
  have hl : lv_has ls 2 [(0, .ref (a 0)), (1, .int p0)] := hl
  refine lv_aload_n hx hb dX11_alike_0 rfl (lv_at hl 0 rfl) ?_
  refine lv_iload_n hx hb dX11_alike_1 rfl (lv_at hl 1 rfl) ?_
  have hPc : va_P D vwCl [((a 0), f_x a), ((a 2), f_book a)] _ := (ro0 hP0 hS).sub (ws' := [((a 0), f_x a), ((a 2), f_book a)]) [0, 1] rfl
  have hDc : va_D (fun q => z0 ≤ q) [((a 0), f_x a), ((a 2), f_book a)] := hD0.pick (ws' := [((a 0), f_x a), ((a 2), f_book a)]) [0, 1] (by decide) rfl
  have hFc := AnA (ws := []) hS.1
  refine vx_callv (vx_runV (As := [.int p0]) (rest := []) ⟨hx, hb, hml, hown, ht⟩ (k_X11_needFault l hfl D g z0 _ a p0) (cwV 1 ht (gV w_37 w_39 w_40 w_31 w_38) rfl rfl rfl (by decide +kernel) (le2 rfl rfl)) ⟨PP.blind, va_recv hK.1 (ro0 hP0 hS) (ci := 17) (q0 := 0) rfl rfl, PP.mk' hK hZ hz hAz hS hPc hDc⟩ rfl rfl hl.1 rfl (lv_room (Nat.le_of_ble_eq_true rfl)) dX11_alike_2 (le2 rfl rfl)) hS (fun q _ h => hFc q h) hFc (fun q _ h => hFc q h) (fun E ce q9 u t H locs ht1 hvm hw hB hz1 hk1 hS hcell hv9 hcl => ?_) (fun u t H locs ht1 hvm hw hB hz1 hk1 hS => ?_)
  · obtain ⟨rfl, hB⟩ := hB
    exact out0 htab hlocks hS hcell hv9 hcl (fun t _ hF => ⟨(), trivial, ⟨rfl, trivial⟩, hF⟩) (fun _ h => h) rfl rfl
  · exact hw.elim
set_option maxHeartbeats 4000000 in
set_option maxRecDepth 100000 in
theorem k_X11_needCode (l : Launch) (hfl : l.stackTraces = false) (D : va_G) (g : Nat → ClassId) (z0 sz : Nat) (a : Nat → Nat) (p0 : Int32) (hc_p0 : isC p0) : vx_Met l yX11_needCode (.code yX11_needCode cX11_needCode 2 none :: TG) (rmk 6 1 6 81) (va_Pc [.ref (a 0), .int p0] (PP D g z0 sz [])) (va_Qv (fun (u : Unit) => ((p0 = 99) ∨ ((¬ p0 = 99) ∧ (p0 = 116)))) (fun (_ : Unit) (_ : State) => True) (va_A [] sz)) (vx_X (fun _ : Unit => True) (fun E _ _ => (E = "java/lang/IllegalArgumentException" ∧ ((¬ p0 = 99) ∧ (¬ p0 = 116)))) (va_A [] sz)) 1 6 (va_A [] sz) := by
  refine vxm0 (cc := cX11_needCode) (n := 2) (by decide) (Nat.le_of_ble_eq_true rfl) ?_
  intro p e s m args below meth c hx hb hr hml htab hown ht hlocks hnm hP0 hD0 hK hZ hsz hz ls hl
  subst hsz
  have hA : ∀ q : Nat, s.heap.size ≤ q → va_A [] s.heap.size q := Anw
  have hAz : ∀ q, va_A [] s.heap.size q → z0 ≤ q := A0z hz
  have hS : va_S (va_A [] s.heap.size) s.heap s.heap [] := va_S.rf
  have hl : lv_has ls 2 [(0, .ref (a 0)), (1, .int p0)] := hl
  refine lv_iload_n hx hb dX11_needCode_0 rfl (lv_at hl 1 rfl) ?_
  refine lv_bipush (v := 99) hx hb dX11_needCode_1 (by decide) ?_
  refine lv_icmp_eq (tgt := 20) hx hb dX11_needCode_3 (by decide) (fun c_1 => ?_) (fun c_1 => ?_)
  · refine vx_ret (W.widen (k := 1) (n := 6) (Nat.le_of_ble_eq_true rfl) (Nat.le_of_ble_eq_true rfl) ?_)
    exact W.vret hx hb hr (fun t ht9 hW9 => ⟨⟨(), rfl, (Or.inl c_1), trivial⟩, hS.F ht9⟩) hS.2.2 dX11_needCode_20 hlocks
  · refine lv_iload_n hx hb dX11_needCode_6 rfl (lv_at hl 1 rfl) ?_
    refine lv_bipush (v := 116) hx hb dX11_needCode_7 (by decide) ?_
    refine lv_icmp_eq (tgt := 20) hx hb dX11_needCode_9 (by decide) (fun c_2 => ?_) (fun c_2 => ?_)
    · refine vx_ret (W.widen (k := 1) (n := 6) (Nat.le_of_ble_eq_true rfl) (Nat.le_of_ble_eq_true rfl) ?_)
      exact W.vret hx hb hr (fun t ht9 hW9 => ⟨⟨(), rfl, (Or.inr ⟨c_1, c_2⟩), trivial⟩, hS.F ht9⟩) hS.2.2 dX11_needCode_20 hlocks
    · exact thr0 hx hb hfl hown ht hK.2.2 hZ hAz hS hl hml htab hlocks (by decide +kernel) w_41 w_42 at_X11_116 dX11_needCode_12 dX11_needCode_15 dX11_needCode_16 dX11_needCode_19 rfl rfl rfl rfl (fun t _ hF => ⟨(), trivial, ⟨rfl, ⟨c_1, c_2⟩⟩, hF⟩) (fun _ h => h) rfl rfl
set_option maxHeartbeats 4000000 in
set_option maxRecDepth 100000 in
theorem k_X11_badWires (l : Launch) (hfl : l.stackTraces = false) (D : va_G) (g : Nat → ClassId) (z0 sz : Nat) (a : Nat → Nat) (p0 : Int32) (hc_p0 : isC p0) : vx_Met l yX11_badWires (.code yX11_badWires cX11_badWires 4 (some .int) :: TG) (rmk 7 1 6 102) (va_Pc [.ref (a 0), .int p0] (PP D g z0 sz [((a 0), f_x a), ((a 10), f_wires a)])) (va_Qi (fun (r : Int32) (u : Unit) => (r = 0) ∧ ((p0 = 99) ∨ ((¬ p0 = 99) ∧ (p0 = 116)))) (fun (_ : Unit) (_ : State) => True) (va_A [] sz)) (vx_X (fun _ : Unit => True) (fun E _ _ => (E = "java/lang/IllegalArgumentException" ∧ ((¬ p0 = 99) ∧ (¬ p0 = 116)))) (va_A [] sz)) 1 6 (va_A [] sz) := by
  refine vxm0 (cc := cX11_badWires) (n := 4) (by decide) (Nat.le_of_ble_eq_true rfl) ?_
  intro p e s m args below meth c hx hb hr hml htab hown ht hlocks hnm hP0 hD0 hK hZ hsz hz ls hl
  subst hsz
  have hA : ∀ q : Nat, s.heap.size ≤ q → va_A [] s.heap.size q := Anw
  have hAz : ∀ q, va_A [] s.heap.size q → z0 ≤ q := A0z hz
  have hS : va_S (va_A [] s.heap.size) s.heap s.heap [] := va_S.rf
  have hl : lv_has ls 4 [(0, .ref (a 0)), (1, .int p0)] := hl
  refine lv_aload_n hx hb dX11_badWires_0 rfl (lv_at hl 0 rfl) ?_
  refine lv_iload_n hx hb dX11_badWires_1 rfl (lv_at hl 1 rfl) ?_
  have hPc : va_P D vwCl [] _ := (ro0 hP0 hS).sub (ws' := []) [] rfl
  have hDc : va_D (fun q => z0 ≤ q) [] := hD0.pick (ws' := []) [] (by decide) rfl
  have hFc := AnA (ws := []) hS.1
  refine vx_callv (vx_runV (As := [.int p0]) (rest := []) ⟨hx, hb, hml, hown, ht⟩ (k_X11_needCode l hfl D g z0 _ a p0 hc_p0) (cwV 1 ht (gV w_43 w_45 w_46 w_31 w_44) rfl rfl rfl (by decide +kernel) (le2 rfl rfl)) ⟨PP.blind, va_recv hK.1 (ro0 hP0 hS) (ci := 17) (q0 := 0) rfl rfl, PP.mk' hK hZ hz hAz hS hPc hDc⟩ rfl rfl hl.1 rfl (lv_room (Nat.le_of_ble_eq_true rfl)) dX11_badWires_2 (le2 rfl rfl)) hS (fun q _ h => hFc q h) hFc (fun q _ h => hFc q h) (fun E ce q9 u t H locs ht1 hvm hw hB hz1 hk1 hS hcell hv9 hcl => ?_) (fun u t H locs ht1 hvm hw hB hz1 hk1 hS => ?_)
  · obtain ⟨rfl, hB⟩ := hB
    obtain ⟨c_1, c_2⟩ := hB
    exact out0 htab hlocks hS hcell hv9 hcl (fun t _ hF => ⟨(), trivial, ⟨rfl, ⟨c_1, c_2⟩⟩, hF⟩) (fun _ h => h) rfl rfl
  · rcases hw with hw | hw
    · have c_3 := hw
      refine lv_iconst (v := 0) hx hb dX11_badWires_5 (by decide) ?_
      refine lv_istore_n (lv' := [(2, .int 0), (0, .ref (a 0)), (1, .int p0)]) hx hb dX11_badWires_6 rfl hl (by decide) rfl (fun ls hl => ?_)
      refine lv_iconst (v := 0) hx hb dX11_badWires_7 (by decide) ?_
      refine lv_istore_n (lv' := [(3, .int 0), (2, .int 0), (0, .ref (a 0)), (1, .int p0)]) hx hb dX11_badWires_8 rfl hl (by decide) rfl (fun ls hl => ?_)
      refine lv_iload_n hx hb dX11_badWires_9 rfl (lv_at hl 0 rfl) ?_
      refine lv_aload_n hx hb dX11_badWires_10 rfl (lv_at hl 2 rfl) ?_
      refine va_get (D := D) (ci := 17) (v := .ref (a 10)) (C := RX11) (T := TX11) (N := 11) hx hb ht in_X11 hown hK.1 (ro0 hP0 hS) 0 rfl rfl 9 (by decide) (ht _ w_47) (fun _ h9 => h9) rfl dX11_badWires_11 ?_
      refine va_get (D := D) (ci := 6) (v := .int 0) (C := RX0) (T := TX0) (N := 4) hx hb ht in_X0 hown hK.1 (ro0 hP0 hS) 1 rfl rfl 2 (by decide) (ht _ w_48) (fun _ h9 => h9) rfl dX11_badWires_14 ?_
      refine lv_icmp_ge (tgt := 53) hx hb dX11_badWires_17 (by decide) (fun c_4 => ?_) (fun c_4 => ?_)
      · refine lv_iload_n hx hb dX11_badWires_53 rfl (lv_at hl 1 rfl) ?_
        refine vx_ret (W.widen (k := 1) (n := 6) (Nat.le_of_ble_eq_true rfl) (Nat.le_of_ble_eq_true rfl) ?_)
        exact W.iret (v := 0) hx hb hr (fun t ht9 hW9 => ⟨⟨0, (), rfl, ⟨rfl, (Or.inl c_3)⟩, trivial⟩, hS.F ht9⟩) hS.2.2 dX11_badWires_54 hlocks
      · exact absurd c_4 (by decide)
    · obtain ⟨c_5, c_6⟩ := hw
      refine lv_iconst (v := 0) hx hb dX11_badWires_5 (by decide) ?_
      refine lv_istore_n (lv' := [(2, .int 0), (0, .ref (a 0)), (1, .int p0)]) hx hb dX11_badWires_6 rfl hl (by decide) rfl (fun ls hl => ?_)
      refine lv_iconst (v := 0) hx hb dX11_badWires_7 (by decide) ?_
      refine lv_istore_n (lv' := [(3, .int 0), (2, .int 0), (0, .ref (a 0)), (1, .int p0)]) hx hb dX11_badWires_8 rfl hl (by decide) rfl (fun ls hl => ?_)
      refine lv_iload_n hx hb dX11_badWires_9 rfl (lv_at hl 0 rfl) ?_
      refine lv_aload_n hx hb dX11_badWires_10 rfl (lv_at hl 2 rfl) ?_
      refine va_get (D := D) (ci := 17) (v := .ref (a 10)) (C := RX11) (T := TX11) (N := 11) hx hb ht in_X11 hown hK.1 (ro0 hP0 hS) 0 rfl rfl 9 (by decide) (ht _ w_47) (fun _ h9 => h9) rfl dX11_badWires_11 ?_
      refine va_get (D := D) (ci := 6) (v := .int 0) (C := RX0) (T := TX0) (N := 4) hx hb ht in_X0 hown hK.1 (ro0 hP0 hS) 1 rfl rfl 2 (by decide) (ht _ w_48) (fun _ h9 => h9) rfl dX11_badWires_14 ?_
      refine lv_icmp_ge (tgt := 53) hx hb dX11_badWires_17 (by decide) (fun c_7 => ?_) (fun c_7 => ?_)
      · refine lv_iload_n hx hb dX11_badWires_53 rfl (lv_at hl 1 rfl) ?_
        refine vx_ret (W.widen (k := 1) (n := 6) (Nat.le_of_ble_eq_true rfl) (Nat.le_of_ble_eq_true rfl) ?_)
        exact W.iret (v := 0) hx hb hr (fun t ht9 hW9 => ⟨⟨0, (), rfl, ⟨rfl, (Or.inr ⟨c_5, c_6⟩)⟩, trivial⟩, hS.F ht9⟩) hS.2.2 dX11_badWires_54 hlocks
      · exact absurd c_7 (by decide)
set_option maxHeartbeats 4000000 in
set_option maxRecDepth 100000 in
theorem k_X11_begins (l : Launch) (hfl : l.stackTraces = false) (D : va_G) (g : Nat → ClassId) (z0 sz : Nat) (a : Nat → Nat) (p0 : Int32) (p1 : Int32) (p2 : Int32) : vx_Met l yX11_begins (.code yX11_begins cX11_begins 4 (some .int) :: TG) (rmk 6 1 6 81) (va_Pc [.ref (a 0), .int p0, .int p1, .int p2] (PP D g z0 sz [((a 0), f_x a), ((a 11), f_cores a)])) (va_Qi (fun (r : Int32) (u : Unit) => False) (fun (_ : Unit) (_ : State) => True) (va_A [] sz)) (vx_X (fun _ : Unit => True) (fun E _ _ => (E = "java/lang/IndexOutOfBoundsException" ∧ True)) (va_A [] sz)) 1 6 (va_A [] sz) := by
  refine vxm0 (cc := cX11_begins) (n := 4) (by decide) (Nat.le_of_ble_eq_true rfl) ?_
  intro p e s m args below meth c hx hb hr hml htab hown ht hlocks hnm hP0 hD0 hK hZ hsz hz ls hl
  subst hsz
  have hA : ∀ q : Nat, s.heap.size ≤ q → va_A [] s.heap.size q := Anw
  have hAz : ∀ q, va_A [] s.heap.size q → z0 ≤ q := A0z hz
  have hS : va_S (va_A [] s.heap.size) s.heap s.heap [] := va_S.rf
  have hl : lv_has ls 4 [(0, .ref (a 0)), (1, .int p0), (2, .int p1), (3, .int p2)] := hl
  refine lv_iload_n hx hb dX11_begins_0 rfl (lv_at hl 3 rfl) ?_
  refine lv_if_lt (tgt := 15) hx hb dX11_begins_1 (by decide) (fun c_1 => ?_) (fun c_1 => ?_)
  · exact thr0 hx hb hfl hown ht hK.2.2 hZ hAz hS hl hml htab hlocks (by decide +kernel) w_35 w_36 at_X11_102 dX11_begins_15 dX11_begins_18 dX11_begins_19 dX11_begins_22 rfl rfl rfl rfl (fun t _ hF => ⟨(), trivial, ⟨rfl, trivial⟩, hF⟩) (fun _ h => h) rfl rfl
  · refine lv_iload_n hx hb dX11_begins_4 rfl (lv_at hl 3 rfl) ?_
    refine lv_aload_n hx hb dX11_begins_5 rfl (lv_at hl 0 rfl) ?_
    refine va_get (D := D) (ci := 17) (v := .ref (a 11)) (C := RX11) (T := TX11) (N := 11) hx hb ht in_X11 hown hK.1 (ro0 hP0 hS) 0 rfl rfl 10 (by decide) (ht _ w_49) (fun _ h9 => h9) rfl dX11_begins_6 ?_
    refine va_get (D := D) (ci := 8) (v := .int 0) (C := RX2) (T := TX2) (N := 7) hx hb ht in_X2 hown hK.1 (ro0 hP0 hS) 1 rfl rfl 6 (by decide) (ht _ w_50) (fun _ h9 => h9) rfl dX11_begins_9 ?_
    refine lv_icmp_lt (tgt := 23) hx hb dX11_begins_12 (by decide) (fun c_2 => ?_) (fun c_2 => ?_)
    · exact absurd c_2 c_1
    · exact thr0 hx hb hfl hown ht hK.2.2 hZ hAz hS hl hml htab hlocks (by decide +kernel) w_35 w_36 at_X11_102 dX11_begins_15 dX11_begins_18 dX11_begins_19 dX11_begins_22 rfl rfl rfl rfl (fun t _ hF => ⟨(), trivial, ⟨rfl, trivial⟩, hF⟩) (fun _ h => h) rfl rfl
set_option maxHeartbeats 4000000 in
set_option maxRecDepth 100000 in
theorem k_X11_needRange (l : Launch) (hfl : l.stackTraces = false) (D : va_G) (g : Nat → ClassId) (z0 sz : Nat) (a : Nat → Nat) (p0 : Int32) (p1 : Int32) (p2 : Int32) : vx_Met l yX11_needRange (.code yX11_needRange cX11_needRange 3 none :: TG) (rmk 6 1 6 81) (va_Pc [.int p0, .int p1, .int p2] (PP D g z0 sz [])) (va_Qv (fun (u : Unit) => ((¬ p0 < p1) ∧ (p0 ≤ p2))) (fun (_ : Unit) (_ : State) => True) (va_A [] sz)) (vx_X (fun _ : Unit => True) (fun E _ _ => (E = "java/lang/IllegalArgumentException" ∧ ((p0 < p1) ∨ ((¬ p0 < p1) ∧ (¬ p0 ≤ p2))))) (va_A [] sz)) 1 6 (va_A [] sz) := by
  refine vxm0 (cc := cX11_needRange) (n := 3) (by decide) (Nat.le_of_ble_eq_true rfl) ?_
  intro p e s m args below meth c hx hb hr hml htab hown ht hlocks hnm hP0 hD0 hK hZ hsz hz ls hl
  subst hsz
  have hA : ∀ q : Nat, s.heap.size ≤ q → va_A [] s.heap.size q := Anw
  have hAz : ∀ q, va_A [] s.heap.size q → z0 ≤ q := A0z hz
  have hS : va_S (va_A [] s.heap.size) s.heap s.heap [] := va_S.rf
  have hl : lv_has ls 3 [(0, .int p0), (1, .int p1), (2, .int p2)] := hl
  refine lv_iload_n hx hb dX11_needRange_0 rfl (lv_at hl 0 rfl) ?_
  refine lv_iload_n hx hb dX11_needRange_1 rfl (lv_at hl 1 rfl) ?_
  refine lv_icmp_lt (tgt := 10) hx hb dX11_needRange_2 (by decide) (fun c_1 => ?_) (fun c_1 => ?_)
  · exact thr0 hx hb hfl hown ht hK.2.2 hZ hAz hS hl hml htab hlocks (by decide +kernel) w_41 w_42 at_X11_116 dX11_needRange_10 dX11_needRange_13 dX11_needRange_14 dX11_needRange_17 rfl rfl rfl rfl (fun t _ hF => ⟨(), trivial, ⟨rfl, (Or.inl c_1)⟩, hF⟩) (fun _ h => h) rfl rfl
  · refine lv_iload_n hx hb dX11_needRange_5 rfl (lv_at hl 0 rfl) ?_
    refine lv_iload_n hx hb dX11_needRange_6 rfl (lv_at hl 2 rfl) ?_
    refine lv_icmp_le (tgt := 18) hx hb dX11_needRange_7 (by decide) (fun c_2 => ?_) (fun c_2 => ?_)
    · refine vx_ret (W.widen (k := 1) (n := 6) (Nat.le_of_ble_eq_true rfl) (Nat.le_of_ble_eq_true rfl) ?_)
      exact W.vret hx hb hr (fun t ht9 hW9 => ⟨⟨(), rfl, ⟨c_1, c_2⟩, trivial⟩, hS.F ht9⟩) hS.2.2 dX11_needRange_18 hlocks
    · exact thr0 hx hb hfl hown ht hK.2.2 hZ hAz hS hl hml htab hlocks (by decide +kernel) w_41 w_42 at_X11_116 dX11_needRange_10 dX11_needRange_13 dX11_needRange_14 dX11_needRange_17 rfl rfl rfl rfl (fun t _ hF => ⟨(), trivial, ⟨rfl, (Or.inr ⟨c_1, c_2⟩)⟩, hF⟩) (fun _ h => h) rfl rfl
set_option maxHeartbeats 4000000 in
set_option maxRecDepth 100000 in
theorem k_X0_layOut (l : Launch) (D : va_G) (g : Nat → ClassId) (z0 sz : Nat) (a : Nat → Nat) (p0 : Int32) (p1 : Int32) (hc_p1 : isC p1) : Met l yX0_layOut (.code yX0_layOut cX0_layOut 4 (some .int) :: TG) (rmk 1 0 0 23) (va_Pc [.ref (a 10), .int p0, .int p1] (PP D g z0 sz [((a 10), f_wires a), ((a 61), .inl (g 0, 12, .inl (fun _ => 0))), ((a 62), .inl (g 0, 12, .inl (fun _ => 0)))])) (va_Qi (fun (r : Int32) (u : Unit) => (r = 0) ∧ True) (fun (u : Unit) (t : State) => va_P D vwCl [((a 10), .inr (6, [.ref (a 61), .ref (a 62), .int p0, .int p1])), ((a 61), .inl (g 0, 12, .inl (fun _ => 2))), ((a 62), .inl (g 0, 12, .inl (fun _ => 0)))] t.heap ∧ va_D (va_A [((a 10), f_wires a), ((a 61), .inl (g 0, 12, .inl (fun _ => 0))), ((a 62), .inl (g 0, 12, .inl (fun _ => 0)))] sz) [((a 10), .inr (6, [.ref (a 61), .ref (a 62), .int p0, .int p1])), ((a 61), .inl (g 0, 12, .inl (fun _ => 2))), ((a 62), .inl (g 0, 12, .inl (fun _ => 0)))]) (va_A [((a 10), f_wires a), ((a 61), .inl (g 0, 12, .inl (fun _ => 0))), ((a 62), .inl (g 0, 12, .inl (fun _ => 0)))] sz)) 0 0 (va_A [((a 10), f_wires a), ((a 61), .inl (g 0, 12, .inl (fun _ => 0))), ((a 62), .inl (g 0, 12, .inl (fun _ => 0)))] sz) := by
  refine met0 (cc := cX0_layOut) (n := 4) (by decide) (Nat.le_of_ble_eq_true rfl) ?_
  intro p e s m args below meth c hx hb hr hml hown ht hlocks hnm hP0 hD0 hK hZ hsz hz ls hl
  subst hsz
  have hA : ∀ q : Nat, s.heap.size ≤ q → va_A [((a 10), f_wires a), ((a 61), .inl (g 0, 12, .inl (fun _ => 0))), ((a 62), .inl (g 0, 12, .inl (fun _ => 0)))] s.heap.size q := Anw
  have hAz : ∀ q, va_A [((a 10), f_wires a), ((a 61), .inl (g 0, 12, .inl (fun _ => 0))), ((a 62), .inl (g 0, 12, .inl (fun _ => 0)))] s.heap.size q → z0 ≤ q := Awz hz hD0
  have hS : va_S (va_A [((a 10), f_wires a), ((a 61), .inl (g 0, 12, .inl (fun _ => 0))), ((a 62), .inl (g 0, 12, .inl (fun _ => 0)))] s.heap.size) s.heap s.heap [] := va_S.rf
  have hD : va_D (va_A [((a 10), f_wires a), ((a 61), .inl (g 0, 12, .inl (fun _ => 0))), ((a 62), .inl (g 0, 12, .inl (fun _ => 0)))] s.heap.size) [((a 10), f_wires a), ((a 61), .inl (g 0, 12, .inl (fun _ => 0))), ((a 62), .inl (g 0, 12, .inl (fun _ => 0)))] := hD0.self
  have hP : va_P D vwCl [((a 10), f_wires a), ((a 61), .inl (g 0, 12, .inl (fun _ => 0))), ((a 62), .inl (g 0, 12, .inl (fun _ => 0)))] s.heap := hP0
  have hl : lv_has ls 4 [(0, .ref (a 10)), (1, .int p0), (2, .int p1)] := hl
  refine lv_aload_n hx hb dX0_layOut_0 rfl (lv_at hl 0 rfl) ?_
  refine va_get (D := D) (ci := 6) (v := .int 0) (C := RX0) (T := TX0) (N := 4) hx hb ht in_X0 hown hK.1 hP 0 rfl rfl 2 (by decide) (ht _ w_54) (fun _ h9 => h9) rfl dX0_layOut_1 ?_
  refine lv_istore_n (lv' := [(3, .int 0), (0, .ref (a 10)), (1, .int p0), (2, .int p1)]) hx hb dX0_layOut_4 rfl hl (by decide) rfl (fun ls hl => ?_)
  refine lv_aload_n hx hb dX0_layOut_5 rfl (lv_at hl 1 rfl) ?_
  refine lv_iload_n hx hb dX0_layOut_6 rfl (lv_at hl 2 rfl) ?_
  refine va_put (D := D) (ci := 6) (v := .int p0) (ty := .int) (C := RX0) (T := TX0) (N := 4) hx hb ht in_X0 tyX0 tyX0_ok nmX0 hown hK.1 hP hD hS 0 rfl rfl 2 (by decide) (ht _ w_54) (fun _ h9 => h9) rfl (by decide +kernel) rfl rfl (Nat.le_of_ble_eq_true rfl) dX0_layOut_7 (fun H locs hP hD hS => ?_)
  have hP : va_P D vwCl [((a 10), .inr (6, [.ref (a 61), .ref (a 62), .int p0, .int 97])), ((a 61), .inl (g 0, 12, .inl (fun _ => 0))), ((a 62), .inl (g 0, 12, .inl (fun _ => 0)))] H := hP
  have hD : va_D (va_A [((a 10), f_wires a), ((a 61), .inl (g 0, 12, .inl (fun _ => 0))), ((a 62), .inl (g 0, 12, .inl (fun _ => 0)))] s.heap.size) [((a 10), .inr (6, [.ref (a 61), .ref (a 62), .int p0, .int 97])), ((a 61), .inl (g 0, 12, .inl (fun _ => 0))), ((a 62), .inl (g 0, 12, .inl (fun _ => 0)))] := hD
  refine lv_aload_n hx hb dX0_layOut_10 rfl (lv_at hl 1 rfl) ?_
  refine lv_iload_n hx hb dX0_layOut_11 rfl (lv_at hl 3 rfl) ?_
  refine va_put (D := D) (ci := 6) (v := .int p1) (ty := .char) (C := RX0) (T := TX0) (N := 4) hx hb ht in_X0 tyX0 tyX0_ok nmX0 hown hK.1 hP hD hS 0 rfl rfl 3 (by decide) (ht _ w_55) (fun _ h9 => h9) rfl (by decide +kernel) hc_p1.1 hc_p1.2 (Nat.le_of_ble_eq_true rfl) dX0_layOut_12 (fun H locs hP hD hS => ?_)
  have hP : va_P D vwCl [((a 10), .inr (6, [.ref (a 61), .ref (a 62), .int p0, .int p1])), ((a 61), .inl (g 0, 12, .inl (fun _ => 0))), ((a 62), .inl (g 0, 12, .inl (fun _ => 0)))] H := hP
  have hD : va_D (va_A [((a 10), f_wires a), ((a 61), .inl (g 0, 12, .inl (fun _ => 0))), ((a 62), .inl (g 0, 12, .inl (fun _ => 0)))] s.heap.size) [((a 10), .inr (6, [.ref (a 61), .ref (a 62), .int p0, .int p1])), ((a 61), .inl (g 0, 12, .inl (fun _ => 0))), ((a 62), .inl (g 0, 12, .inl (fun _ => 0)))] := hD
  refine lv_aload_n hx hb dX0_layOut_15 rfl (lv_at hl 1 rfl) ?_
  refine va_get (D := D) (ci := 6) (v := .ref (a 61)) (C := RX0) (T := TX0) (N := 4) hx hb ht in_X0 hown hK.1 hP 0 rfl rfl 0 (by decide) (ht _ w_56) (fun _ h9 => h9) rfl dX0_layOut_16 ?_
  refine lv_iconst (v := 2) hx hb dX0_layOut_19 (by decide) ?_
  have hPc : va_P D vwCl [((a 61), .inl (g 0, 12, .inl (fun _ => 0)))] _ := hP.sub (ws' := [((a 61), .inl (g 0, 12, .inl (fun _ => 0)))]) [1] rfl
  have hDc : va_D (fun q => z0 ≤ q) [((a 61), .inl (g 0, 12, .inl (fun _ => 0)))] := (hD.to hAz).pick (ws' := [((a 61), .inl (g 0, 12, .inl (fun _ => 0)))]) [1] (by decide) rfl
  have hFc := va_free (wc := [((a 61), .inl (g 0, 12, .inl (fun _ => 0)))]) hD hS hA [1] rfl
  refine va_callv (va_runS (As := [.ref (a 61), .int 2]) (rest := []) ⟨hx, hb, hml, hown, ht⟩ (k_fillI l D g z0 _ (a 61) 12 (fun _ => 0) 2 (by decide)) (va_cwS 2 ht (gS w_57 w_59 w_8 w_58) rfl rfl rfl (by decide +kernel) (le2 rfl rfl)) ⟨PP.blind, PP.mk' hK hZ hz hAz hS hPc hDc⟩ rfl rfl hl.1 rfl (lv_room (Nat.le_of_ble_eq_true rfl)) dX0_layOut_20 (le2 rfl rfl)) hS (fun q _ h => hFc q h) hFc (fun u t H locs ht1 hvm hw hB hz1 hk1 hS => ?_)
  obtain ⟨hP1, hD1⟩ := hB
  rw [ht1] at hP1
  obtain ⟨hP, hD⟩ := va_join (wr := [((a 10), .inr (6, [.ref (a 61), .ref (a 62), .int p0, .int p1])), ((a 62), .inl (g 0, 12, .inl (fun _ => 0)))]) (w1 := [((a 61), .inl (g 0, 12, .inl (fun _ => 2)))]) hP hD [1] [0, 2] rfl rfl (by decide) (by decide) hk1 hFc hP1 hD1
  have hP : va_P D vwCl [((a 10), .inr (6, [.ref (a 61), .ref (a 62), .int p0, .int p1])), ((a 62), .inl (g 0, 12, .inl (fun _ => 0))), ((a 61), .inl (g 0, 12, .inl (fun _ => 2)))] H := hP
  have hD : va_D (va_A [((a 10), f_wires a), ((a 61), .inl (g 0, 12, .inl (fun _ => 0))), ((a 62), .inl (g 0, 12, .inl (fun _ => 0)))] s.heap.size) [((a 10), .inr (6, [.ref (a 61), .ref (a 62), .int p0, .int p1])), ((a 62), .inl (g 0, 12, .inl (fun _ => 0))), ((a 61), .inl (g 0, 12, .inl (fun _ => 2)))] := hD
  refine lv_aload_n hx hb dX0_layOut_23 rfl (lv_at hl 1 rfl) ?_
  refine va_get (D := D) (ci := 6) (v := .ref (a 62)) (C := RX0) (T := TX0) (N := 4) hx hb ht in_X0 hown hK.1 hP 0 rfl rfl 1 (by decide) (ht _ w_60) (fun _ h9 => h9) rfl dX0_layOut_24 ?_
  refine lv_iconst (v := 0) hx hb dX0_layOut_27 (by decide) ?_
  have hPc : va_P D vwCl [((a 62), .inl (g 0, 12, .inl (fun _ => 0)))] _ := hP.sub (ws' := [((a 62), .inl (g 0, 12, .inl (fun _ => 0)))]) [1] rfl
  have hDc : va_D (fun q => z0 ≤ q) [((a 62), .inl (g 0, 12, .inl (fun _ => 0)))] := (hD.to hAz).pick (ws' := [((a 62), .inl (g 0, 12, .inl (fun _ => 0)))]) [1] (by decide) rfl
  have hFc := va_free (wc := [((a 62), .inl (g 0, 12, .inl (fun _ => 0)))]) hD hS hA [1] rfl
  refine va_callv (va_runS (As := [.ref (a 62), .int 0]) (rest := []) ⟨hx, hb, hml, hown, ht⟩ (k_fillI l D g z0 _ (a 62) 12 (fun _ => 0) 0 (by decide)) (va_cwS 2 ht (gS w_57 w_59 w_8 w_58) rfl rfl rfl (by decide +kernel) (le2 rfl rfl)) ⟨PP.blind, PP.mk' hK hZ hz hAz hS hPc hDc⟩ rfl rfl hl.1 rfl (lv_room (Nat.le_of_ble_eq_true rfl)) dX0_layOut_28 (le2 rfl rfl)) hS (fun q _ h => hFc q h) hFc (fun u t H locs ht1 hvm hw hB hz1 hk1 hS => ?_)
  obtain ⟨hP1, hD1⟩ := hB
  rw [ht1] at hP1
  obtain ⟨hP, hD⟩ := va_join (wr := [((a 10), .inr (6, [.ref (a 61), .ref (a 62), .int p0, .int p1])), ((a 61), .inl (g 0, 12, .inl (fun _ => 2)))]) (w1 := [((a 62), .inl (g 0, 12, .inl (fun _ => 0)))]) hP hD [1] [0, 2] rfl rfl (by decide) (by decide) hk1 hFc hP1 hD1
  have hP : va_P D vwCl [((a 10), .inr (6, [.ref (a 61), .ref (a 62), .int p0, .int p1])), ((a 61), .inl (g 0, 12, .inl (fun _ => 2))), ((a 62), .inl (g 0, 12, .inl (fun _ => 0)))] H := hP
  have hD : va_D (va_A [((a 10), f_wires a), ((a 61), .inl (g 0, 12, .inl (fun _ => 0))), ((a 62), .inl (g 0, 12, .inl (fun _ => 0)))] s.heap.size) [((a 10), .inr (6, [.ref (a 61), .ref (a 62), .int p0, .int p1])), ((a 61), .inl (g 0, 12, .inl (fun _ => 2))), ((a 62), .inl (g 0, 12, .inl (fun _ => 0)))] := hD
  refine lv_iload_n hx hb dX0_layOut_31 rfl (lv_at hl 0 rfl) ?_
  have hP9 := hP.sub (ws' := [((a 10), .inr (6, [.ref (a 61), .ref (a 62), .int p0, .int p1])), ((a 61), .inl (g 0, 12, .inl (fun _ => 2))), ((a 62), .inl (g 0, 12, .inl (fun _ => 0)))]) [0, 1, 2] rfl
  have hD9 := hD.sub (ws' := [((a 10), .inr (6, [.ref (a 61), .ref (a 62), .int p0, .int p1])), ((a 61), .inl (g 0, 12, .inl (fun _ => 2))), ((a 62), .inl (g 0, 12, .inl (fun _ => 0)))]) [0, 1, 2] (by decide) rfl
  refine W.widen (k := 0) (n := 0) (Nat.le_of_ble_eq_true rfl) (Nat.le_of_ble_eq_true rfl) ?_
  exact W.iret (v := 0) hx hb hr (fun t ht9 hW9 => ⟨⟨0, (), rfl, ⟨rfl, trivial⟩, ⟨(by rw [ht9]; exact hP9), hD9⟩⟩, hS.F ht9⟩) hS.2.2 dX0_layOut_32 hlocks
set_option maxHeartbeats 4000000 in
set_option maxRecDepth 100000 in
theorem k_X11_board (l : Launch) (hfl : l.stackTraces = false) (D : va_G) (g : Nat → ClassId) (z0 sz : Nat) (a : Nat → Nat) (p0 : Int32) (p1 : Int32) (hc_p1 : isC p1) : vx_Met l yX11_board (.code yX11_board cX11_board 3 (some .int) :: TG) (rmk 7 2 12 103) (va_Pc [.ref (a 0), .int p0, .int p1] (PP D g z0 sz [((a 0), f_x a), ((a 10), f_wires a), ((a 61), .inl (g 0, 12, .inl (fun _ => 0))), ((a 62), .inl (g 0, 12, .inl (fun _ => 0)))])) (va_Qi (fun (r : Int32) (u : Unit) => (r = 0) ∧ (((¬ p0 < 1) ∧ (p0 ≤ 12) ∧ (p1 = 97)) ∨ ((¬ p0 < 1) ∧ (p0 ≤ 12) ∧ (¬ p1 = 97) ∧ (p1 = 111)))) (fun (u : Unit) (t : State) => va_P D vwCl [] t.heap ∧ va_D (va_A [((a 0), f_x a), ((a 10), f_wires a), ((a 61), .inl (g 0, 12, .inl (fun _ => 0))), ((a 62), .inl (g 0, 12, .inl (fun _ => 0)))] sz) []) (va_A [((a 0), f_x a), ((a 10), f_wires a), ((a 61), .inl (g 0, 12, .inl (fun _ => 0))), ((a 62), .inl (g 0, 12, .inl (fun _ => 0)))] sz)) (vx_X (fun _ : Unit => True) (fun E _ _ => (E = "java/lang/IllegalArgumentException" ∧ ((p0 < 1) ∨ ((¬ p0 < 1) ∧ (¬ p0 ≤ 12)) ∨ ((¬ p0 < 1) ∧ (p0 ≤ 12) ∧ (¬ p1 = 97) ∧ (¬ p1 = 111))))) (va_A [((a 0), f_x a), ((a 10), f_wires a), ((a 61), .inl (g 0, 12, .inl (fun _ => 0))), ((a 62), .inl (g 0, 12, .inl (fun _ => 0)))] sz)) 2 12 (va_A [((a 0), f_x a), ((a 10), f_wires a), ((a 61), .inl (g 0, 12, .inl (fun _ => 0))), ((a 62), .inl (g 0, 12, .inl (fun _ => 0)))] sz) := by
  refine vxm0 (cc := cX11_board) (n := 3) (by decide) (Nat.le_of_ble_eq_true rfl) ?_
  intro p e s m args below meth c hx hb hr hml htab hown ht hlocks hnm hP0 hD0 hK hZ hsz hz ls hl
  subst hsz
  have hA : ∀ q : Nat, s.heap.size ≤ q → va_A [((a 0), f_x a), ((a 10), f_wires a), ((a 61), .inl (g 0, 12, .inl (fun _ => 0))), ((a 62), .inl (g 0, 12, .inl (fun _ => 0)))] s.heap.size q := Anw
  have hAz : ∀ q, va_A [((a 0), f_x a), ((a 10), f_wires a), ((a 61), .inl (g 0, 12, .inl (fun _ => 0))), ((a 62), .inl (g 0, 12, .inl (fun _ => 0)))] s.heap.size q → z0 ≤ q := Awz hz hD0
  have hS : va_S (va_A [((a 0), f_x a), ((a 10), f_wires a), ((a 61), .inl (g 0, 12, .inl (fun _ => 0))), ((a 62), .inl (g 0, 12, .inl (fun _ => 0)))] s.heap.size) s.heap s.heap [] := va_S.rf
  have hD : va_D (va_A [((a 0), f_x a), ((a 10), f_wires a), ((a 61), .inl (g 0, 12, .inl (fun _ => 0))), ((a 62), .inl (g 0, 12, .inl (fun _ => 0)))] s.heap.size) [((a 0), f_x a), ((a 10), f_wires a), ((a 61), .inl (g 0, 12, .inl (fun _ => 0))), ((a 62), .inl (g 0, 12, .inl (fun _ => 0)))] := hD0.self
  have hP : va_P D vwCl [((a 0), f_x a), ((a 10), f_wires a), ((a 61), .inl (g 0, 12, .inl (fun _ => 0))), ((a 62), .inl (g 0, 12, .inl (fun _ => 0)))] s.heap := hP0
  have hl : lv_has ls 3 [(0, .ref (a 0)), (1, .int p0), (2, .int p1)] := hl
  refine lv_iload_n hx hb dX11_board_0 rfl (lv_at hl 1 rfl) ?_
  refine lv_iconst (v := 1) hx hb dX11_board_1 (by decide) ?_
  refine lv_bipush (v := 12) hx hb dX11_board_2 (by decide) ?_
  have hPc : va_P D vwCl [] _ := hP.sub (ws' := []) [] rfl
  have hDc : va_D (fun q => z0 ≤ q) [] := (hD.to hAz).pick (ws' := []) [] (by decide) rfl
  have hFc := AnA (ws := [((a 0), f_x a), ((a 10), f_wires a), ((a 61), .inl (g 0, 12, .inl (fun _ => 0))), ((a 62), .inl (g 0, 12, .inl (fun _ => 0)))]) hS.1
  refine vx_callv (vx_runS (As := [.int p0, .int 1, .int 12]) (rest := []) ⟨hx, hb, hml, hown, ht⟩ (k_X11_needRange l hfl D g z0 _ a p0 1 12) (va_cwS 3 ht (gS w_51 w_53 w_31 w_52) rfl rfl rfl (by decide +kernel) (le2 rfl rfl)) ⟨PP.blind, PP.mk' hK hZ hz hAz hS hPc hDc⟩ rfl rfl hl.1 rfl (lv_room (Nat.le_of_ble_eq_true rfl)) dX11_board_4 (le2 rfl rfl)) hS (fun q _ h => hFc q h) hFc (fun q _ h => hFc q h) (fun E ce q9 u t H locs ht1 hvm hw hB hz1 hk1 hS hcell hv9 hcl => ?_) (fun u t H locs ht1 hvm hw hB hz1 hk1 hS => ?_)
  · obtain ⟨rfl, hB⟩ := hB
    rcases hB with hB | hB
    · have c_1 := hB
      exact out0 htab hlocks hS hcell hv9 hcl (fun t _ hF => ⟨(), trivial, ⟨rfl, (Or.inl c_1)⟩, hF⟩) (fun _ h => h) rfl rfl
    · obtain ⟨c_2, c_3⟩ := hB
      exact out0 htab hlocks hS hcell hv9 hcl (fun t _ hF => ⟨(), trivial, ⟨rfl, (Or.inr (Or.inl ⟨c_2, c_3⟩))⟩, hF⟩) (fun _ h => h) rfl rfl
  · obtain ⟨c_4, c_5⟩ := hw
    have hP := ro1 hP hk1
    refine lv_iload_n hx hb dX11_board_7 rfl (lv_at hl 2 rfl) ?_
    refine lv_bipush (v := 97) hx hb dX11_board_8 (by decide) ?_
    refine lv_icmp_eq (tgt := 27) hx hb dX11_board_10 (by decide) (fun c_6 => ?_) (fun c_6 => ?_)
    · refine lv_aload_n hx hb dX11_board_27 rfl (lv_at hl 0 rfl) ?_
      refine va_get (D := D) (ci := 17) (v := .ref (a 10)) (C := RX11) (T := TX11) (N := 11) hx hb ht in_X11 hown hK.1 hP 0 rfl rfl 9 (by decide) (ht _ w_47) (fun _ h9 => h9) rfl dX11_board_28 ?_
      refine lv_iload_n hx hb dX11_board_31 rfl (lv_at hl 1 rfl) ?_
      refine lv_iload_n hx hb dX11_board_32 rfl (lv_at hl 2 rfl) ?_
      have hPc : va_P D vwCl [((a 10), f_wires a), ((a 61), .inl (g 0, 12, .inl (fun _ => 0))), ((a 62), .inl (g 0, 12, .inl (fun _ => 0)))] _ := hP.sub (ws' := [((a 10), f_wires a), ((a 61), .inl (g 0, 12, .inl (fun _ => 0))), ((a 62), .inl (g 0, 12, .inl (fun _ => 0)))]) [1, 2, 3] rfl
      have hDc : va_D (fun q => z0 ≤ q) [((a 10), f_wires a), ((a 61), .inl (g 0, 12, .inl (fun _ => 0))), ((a 62), .inl (g 0, 12, .inl (fun _ => 0)))] := (hD.to hAz).pick (ws' := [((a 10), f_wires a), ((a 61), .inl (g 0, 12, .inl (fun _ => 0))), ((a 62), .inl (g 0, 12, .inl (fun _ => 0)))]) [1, 2, 3] (by decide) rfl
      have hFc := va_free (wc := [((a 10), f_wires a), ((a 61), .inl (g 0, 12, .inl (fun _ => 0))), ((a 62), .inl (g 0, 12, .inl (fun _ => 0)))]) hD hS hA [1, 2, 3] rfl
      refine va_calli (va_runV (As := [.int p0, .int p1]) (rest := []) ⟨hx, hb, hml, hown, ht⟩ (k_X0_layOut l D g z0 _ a p0 p1 hc_p1) (cwV 2 ht (gV w_61 w_63 w_64 w_65 w_62) rfl rfl rfl (by decide +kernel) (le2 rfl rfl)) ⟨PP.blind, va_recv hK.1 hP (ci := 6) (q0 := 1) rfl rfl, PP.mk' hK hZ hz hAz hS hPc hDc⟩ rfl rfl hl.1 rfl (lv_room (Nat.le_of_ble_eq_true rfl)) dX11_board_33 (le2 rfl rfl)) hS (fun q _ h => hFc q h) hFc (fun r u t H locs ht1 hvm hw hB hz1 hk1 hS => ?_)
      obtain ⟨rfl, hw⟩ := hw
      obtain ⟨hP1, hD1⟩ := hB
      rw [ht1] at hP1
      obtain ⟨hP, hD⟩ := va_join (wr := [((a 0), f_x a)]) (w1 := [((a 10), .inr (6, [.ref (a 61), .ref (a 62), .int p0, .int p1])), ((a 61), .inl (g 0, 12, .inl (fun _ => 2))), ((a 62), .inl (g 0, 12, .inl (fun _ => 0)))]) hP hD [1, 2, 3] [0] rfl rfl (by decide) (by decide) hk1 hFc hP1 hD1
      have hP : va_P D vwCl [((a 0), f_x a), ((a 10), .inr (6, [.ref (a 61), .ref (a 62), .int p0, .int p1])), ((a 61), .inl (g 0, 12, .inl (fun _ => 2))), ((a 62), .inl (g 0, 12, .inl (fun _ => 0)))] H := hP
      have hD : va_D (va_A [((a 0), f_x a), ((a 10), f_wires a), ((a 61), .inl (g 0, 12, .inl (fun _ => 0))), ((a 62), .inl (g 0, 12, .inl (fun _ => 0)))] s.heap.size) [((a 0), f_x a), ((a 10), .inr (6, [.ref (a 61), .ref (a 62), .int p0, .int p1])), ((a 61), .inl (g 0, 12, .inl (fun _ => 2))), ((a 62), .inl (g 0, 12, .inl (fun _ => 0)))] := hD
      have hP9 := hP.sub (ws' := []) [] rfl
      have hD9 := hD.sub (ws' := []) [] (by decide) rfl
      refine vx_ret (W.widen (k := 2) (n := 12) (Nat.le_of_ble_eq_true rfl) (Nat.le_of_ble_eq_true rfl) ?_)
      exact W.iret (v := 0) hx hb hr (fun t ht9 hW9 => ⟨⟨0, (), rfl, ⟨rfl, (Or.inl ⟨c_4, c_5, c_6⟩)⟩, ⟨(by rw [ht9]; exact hP9), hD9⟩⟩, hS.F ht9⟩) hS.2.2 dX11_board_36 hlocks
    · refine lv_iload_n hx hb dX11_board_13 rfl (lv_at hl 2 rfl) ?_
      refine lv_bipush (v := 111) hx hb dX11_board_14 (by decide) ?_
      refine lv_icmp_eq (tgt := 27) hx hb dX11_board_16 (by decide) (fun c_7 => ?_) (fun c_7 => ?_)
      · refine lv_aload_n hx hb dX11_board_27 rfl (lv_at hl 0 rfl) ?_
        refine va_get (D := D) (ci := 17) (v := .ref (a 10)) (C := RX11) (T := TX11) (N := 11) hx hb ht in_X11 hown hK.1 hP 0 rfl rfl 9 (by decide) (ht _ w_47) (fun _ h9 => h9) rfl dX11_board_28 ?_
        refine lv_iload_n hx hb dX11_board_31 rfl (lv_at hl 1 rfl) ?_
        refine lv_iload_n hx hb dX11_board_32 rfl (lv_at hl 2 rfl) ?_
        have hPc : va_P D vwCl [((a 10), f_wires a), ((a 61), .inl (g 0, 12, .inl (fun _ => 0))), ((a 62), .inl (g 0, 12, .inl (fun _ => 0)))] _ := hP.sub (ws' := [((a 10), f_wires a), ((a 61), .inl (g 0, 12, .inl (fun _ => 0))), ((a 62), .inl (g 0, 12, .inl (fun _ => 0)))]) [1, 2, 3] rfl
        have hDc : va_D (fun q => z0 ≤ q) [((a 10), f_wires a), ((a 61), .inl (g 0, 12, .inl (fun _ => 0))), ((a 62), .inl (g 0, 12, .inl (fun _ => 0)))] := (hD.to hAz).pick (ws' := [((a 10), f_wires a), ((a 61), .inl (g 0, 12, .inl (fun _ => 0))), ((a 62), .inl (g 0, 12, .inl (fun _ => 0)))]) [1, 2, 3] (by decide) rfl
        have hFc := va_free (wc := [((a 10), f_wires a), ((a 61), .inl (g 0, 12, .inl (fun _ => 0))), ((a 62), .inl (g 0, 12, .inl (fun _ => 0)))]) hD hS hA [1, 2, 3] rfl
        refine va_calli (va_runV (As := [.int p0, .int p1]) (rest := []) ⟨hx, hb, hml, hown, ht⟩ (k_X0_layOut l D g z0 _ a p0 p1 hc_p1) (cwV 2 ht (gV w_61 w_63 w_64 w_65 w_62) rfl rfl rfl (by decide +kernel) (le2 rfl rfl)) ⟨PP.blind, va_recv hK.1 hP (ci := 6) (q0 := 1) rfl rfl, PP.mk' hK hZ hz hAz hS hPc hDc⟩ rfl rfl hl.1 rfl (lv_room (Nat.le_of_ble_eq_true rfl)) dX11_board_33 (le2 rfl rfl)) hS (fun q _ h => hFc q h) hFc (fun r u t H locs ht1 hvm hw hB hz1 hk1 hS => ?_)
        obtain ⟨rfl, hw⟩ := hw
        obtain ⟨hP1, hD1⟩ := hB
        rw [ht1] at hP1
        obtain ⟨hP, hD⟩ := va_join (wr := [((a 0), f_x a)]) (w1 := [((a 10), .inr (6, [.ref (a 61), .ref (a 62), .int p0, .int p1])), ((a 61), .inl (g 0, 12, .inl (fun _ => 2))), ((a 62), .inl (g 0, 12, .inl (fun _ => 0)))]) hP hD [1, 2, 3] [0] rfl rfl (by decide) (by decide) hk1 hFc hP1 hD1
        have hP : va_P D vwCl [((a 0), f_x a), ((a 10), .inr (6, [.ref (a 61), .ref (a 62), .int p0, .int p1])), ((a 61), .inl (g 0, 12, .inl (fun _ => 2))), ((a 62), .inl (g 0, 12, .inl (fun _ => 0)))] H := hP
        have hD : va_D (va_A [((a 0), f_x a), ((a 10), f_wires a), ((a 61), .inl (g 0, 12, .inl (fun _ => 0))), ((a 62), .inl (g 0, 12, .inl (fun _ => 0)))] s.heap.size) [((a 0), f_x a), ((a 10), .inr (6, [.ref (a 61), .ref (a 62), .int p0, .int p1])), ((a 61), .inl (g 0, 12, .inl (fun _ => 2))), ((a 62), .inl (g 0, 12, .inl (fun _ => 0)))] := hD
        have hP9 := hP.sub (ws' := []) [] rfl
        have hD9 := hD.sub (ws' := []) [] (by decide) rfl
        refine vx_ret (W.widen (k := 2) (n := 12) (Nat.le_of_ble_eq_true rfl) (Nat.le_of_ble_eq_true rfl) ?_)
        exact W.iret (v := 0) hx hb hr (fun t ht9 hW9 => ⟨⟨0, (), rfl, ⟨rfl, (Or.inr ⟨c_4, c_5, c_6, c_7⟩)⟩, ⟨(by rw [ht9]; exact hP9), hD9⟩⟩, hS.F ht9⟩) hS.2.2 dX11_board_36 hlocks
      · exact thr0 hx hb hfl hown ht hK.2.2 hZ hAz hS hl hml htab hlocks (by decide +kernel) w_41 w_42 at_X11_116 dX11_board_19 dX11_board_22 dX11_board_23 dX11_board_26 rfl rfl rfl rfl (fun t _ hF => ⟨(), trivial, ⟨rfl, (Or.inr (Or.inr ⟨c_4, c_5, c_6, c_7⟩))⟩, hF⟩) (fun _ h => h) rfl rfl
set_option maxHeartbeats 4000000 in
set_option maxRecDepth 100000 in
theorem k_X11_needClosedNet (l : Launch) (hfl : l.stackTraces = false) (D : va_G) (g : Nat → ClassId) (z0 sz : Nat) (a : Nat → Nat) : vx_Met l yX11_needClosedNet (.code yX11_needClosedNet cX11_needClosedNet 1 none :: TG) (rmk 6 1 6 81) (va_Pc [.ref (a 0)] (PP D g z0 sz [((a 0), f_x a), ((a 1), f_net a)])) (va_Qv (fun (u : Unit) => False) (fun (_ : Unit) (_ : State) => True) (va_A [] sz)) (vx_X (fun _ : Unit => True) (fun E _ _ => (E = "java/lang/UnsupportedOperationException" ∧ True)) (va_A [] sz)) 1 6 (va_A [] sz) := by
  refine vxm0 (cc := cX11_needClosedNet) (n := 1) (by decide) (Nat.le_of_ble_eq_true rfl) ?_
  intro p e s m args below meth c hx hb hr hml htab hown ht hlocks hnm hP0 hD0 hK hZ hsz hz ls hl
  subst hsz
  have hA : ∀ q : Nat, s.heap.size ≤ q → va_A [] s.heap.size q := Anw
  have hAz : ∀ q, va_A [] s.heap.size q → z0 ≤ q := A0z hz
  have hS : va_S (va_A [] s.heap.size) s.heap s.heap [] := va_S.rf
  have hl : lv_has ls 1 [(0, .ref (a 0))] := hl
  refine lv_aload_n hx hb dX11_needClosedNet_0 rfl (lv_at hl 0 rfl) ?_
  refine va_get (D := D) (ci := 17) (v := .ref (a 1)) (C := RX11) (T := TX11) (N := 11) hx hb ht in_X11 hown hK.1 (ro0 hP0 hS) 0 rfl rfl 0 (by decide) (ht _ w_66) (fun _ h9 => h9) rfl dX11_needClosedNet_1 ?_
  refine va_get (D := D) (ci := 12) (v := .int 0) (C := RX6) (T := TX6) (N := 18) hx hb ht in_X6 hown hK.1 (ro0 hP0 hS) 1 rfl rfl 17 (by decide) (ht _ w_68) (fun _ h9 => h9) rfl dX11_needClosedNet_4 ?_
  refine lv_if_ne (tgt := 18) hx hb dX11_needClosedNet_7 (by decide) (fun c_1 => ?_) (fun c_1 => ?_)
  · exact absurd c_1 (by decide)
  · exact thr0 hx hb hfl hown ht hK.2.2 hZ hAz hS hl hml htab hlocks (by decide +kernel) w_69 w_70 at_X11_127 dX11_needClosedNet_10 dX11_needClosedNet_13 dX11_needClosedNet_14 dX11_needClosedNet_17 rfl rfl rfl rfl (fun t _ hF => ⟨(), trivial, ⟨rfl, trivial⟩, hF⟩) (fun _ h => h) rfl rfl
set_option maxHeartbeats 4000000 in
set_option maxRecDepth 100000 in
theorem k_X11_breakChain (l : Launch) (hfl : l.stackTraces = false) (D : va_G) (g : Nat → ClassId) (z0 sz : Nat) (a : Nat → Nat) (p0 : Int32) (p1 : Int32) : vx_Met l yX11_breakChain (.code yX11_breakChain cX11_breakChain 4 (some .int) :: TG) (rmk 7 3 18 103) (va_Pc [.ref (a 0), .int p0, .int p1] (PP D g z0 sz [((a 0), f_x a), ((a 1), f_net a)])) (va_Qi (fun (r : Int32) (u : Unit) => False) (fun (_ : Unit) (_ : State) => True) (va_A [] sz)) (vx_X (fun _ : Unit => True) (fun E _ _ => (E = "java/lang/IllegalArgumentException" ∧ ((p0 < (-1)) ∨ ((¬ p0 < (-1)) ∧ (¬ p0 ≤ (-1))) ∨ ((¬ p0 < (-1)) ∧ (p0 ≤ (-1)) ∧ (p1 < 0)) ∨ ((¬ p0 < (-1)) ∧ (p0 ≤ (-1)) ∧ (¬ p1 < 0) ∧ (¬ p1 ≤ 1)))) ∨ (E = "java/lang/UnsupportedOperationException" ∧ ((¬ p0 < (-1)) ∧ (p0 ≤ (-1)) ∧ (¬ p1 < 0) ∧ (p1 ≤ 1)))) (va_A [] sz)) 3 18 (va_A [] sz) := by
  refine vxm0 (cc := cX11_breakChain) (n := 4) (by decide) (Nat.le_of_ble_eq_true rfl) ?_
  intro p e s m args below meth c hx hb hr hml htab hown ht hlocks hnm hP0 hD0 hK hZ hsz hz ls hl
  subst hsz
  have hA : ∀ q : Nat, s.heap.size ≤ q → va_A [] s.heap.size q := Anw
  have hAz : ∀ q, va_A [] s.heap.size q → z0 ≤ q := A0z hz
  have hS : va_S (va_A [] s.heap.size) s.heap s.heap [] := va_S.rf
  have hl : lv_has ls 4 [(0, .ref (a 0)), (1, .int p0), (2, .int p1)] := hl
  refine lv_iload_n hx hb dX11_breakChain_0 rfl (lv_at hl 1 rfl) ?_
  refine lv_iconst (v := (-1)) hx hb dX11_breakChain_1 (by decide) ?_
  refine lv_aload_n hx hb dX11_breakChain_2 rfl (lv_at hl 0 rfl) ?_
  refine va_get (D := D) (ci := 17) (v := .ref (a 1)) (C := RX11) (T := TX11) (N := 11) hx hb ht in_X11 hown hK.1 (ro0 hP0 hS) 0 rfl rfl 0 (by decide) (ht _ w_66) (fun _ h9 => h9) rfl dX11_breakChain_3 ?_
  refine va_get (D := D) (ci := 12) (v := .int 0) (C := RX6) (T := TX6) (N := 18) hx hb ht in_X6 hown hK.1 (ro0 hP0 hS) 1 rfl rfl 14 (by decide) (ht _ w_67) (fun _ h9 => h9) rfl dX11_breakChain_6 ?_
  refine lv_iconst (v := 1) hx hb dX11_breakChain_9 (by decide) ?_
  refine lv_isub hx hb dX11_breakChain_10 ?_
  refine r_topi (v := (-1)) (by decide) ?_
  have hPc : va_P D vwCl [] _ := (ro0 hP0 hS).sub (ws' := []) [] rfl
  have hDc : va_D (fun q => z0 ≤ q) [] := hD0.pick (ws' := []) [] (by decide) rfl
  have hFc := AnA (ws := []) hS.1
  refine vx_callv (vx_runS (As := [.int p0, .int (-1), .int (-1)]) (rest := []) ⟨hx, hb, hml, hown, ht⟩ (k_X11_needRange l hfl D g z0 _ a p0 (-1) (-1)) (va_cwS 3 ht (gS w_51 w_53 w_31 w_52) rfl rfl rfl (by decide +kernel) (le2 rfl rfl)) ⟨PP.blind, PP.mk' hK hZ hz hAz hS hPc hDc⟩ rfl rfl hl.1 rfl (lv_room (Nat.le_of_ble_eq_true rfl)) dX11_breakChain_11 (le2 rfl rfl)) hS (fun q _ h => hFc q h) hFc (fun q _ h => hFc q h) (fun E ce q9 u t H locs ht1 hvm hw hB hz1 hk1 hS hcell hv9 hcl => ?_) (fun u t H locs ht1 hvm hw hB hz1 hk1 hS => ?_)
  · obtain ⟨rfl, hB⟩ := hB
    rcases hB with hB | hB
    · have c_1 := hB
      exact out0 htab hlocks hS hcell hv9 hcl (fun t _ hF => ⟨(), trivial, (Or.inl ⟨rfl, (Or.inl c_1)⟩), hF⟩) (fun _ h => h) rfl rfl
    · obtain ⟨c_2, c_3⟩ := hB
      exact out0 htab hlocks hS hcell hv9 hcl (fun t _ hF => ⟨(), trivial, (Or.inl ⟨rfl, (Or.inr (Or.inl ⟨c_2, c_3⟩))⟩), hF⟩) (fun _ h => h) rfl rfl
  · obtain ⟨c_4, c_5⟩ := hw
    refine lv_iload_n hx hb dX11_breakChain_14 rfl (lv_at hl 2 rfl) ?_
    refine lv_iconst (v := 0) hx hb dX11_breakChain_15 (by decide) ?_
    refine lv_iconst (v := 1) hx hb dX11_breakChain_16 (by decide) ?_
    have hPc : va_P D vwCl [] _ := (ro0 hP0 hS).sub (ws' := []) [] rfl
    have hDc : va_D (fun q => z0 ≤ q) [] := hD0.pick (ws' := []) [] (by decide) rfl
    have hFc := AnA (ws := []) hS.1
    refine vx_callv (vx_runS (As := [.int p1, .int 0, .int 1]) (rest := []) ⟨hx, hb, hml, hown, ht⟩ (k_X11_needRange l hfl D g z0 _ a p1 0 1) (va_cwS 3 ht (gS w_51 w_53 w_31 w_52) rfl rfl rfl (by decide +kernel) (le2 rfl rfl)) ⟨PP.blind, PP.mk' hK hZ hz hAz hS hPc hDc⟩ rfl rfl hl.1 rfl (lv_room (Nat.le_of_ble_eq_true rfl)) dX11_breakChain_17 (le2 rfl rfl)) hS (fun q _ h => hFc q h) hFc (fun q _ h => hFc q h) (fun E ce q9 u t H locs ht1 hvm hw hB hz1 hk1 hS hcell hv9 hcl => ?_) (fun u t H locs ht1 hvm hw hB hz1 hk1 hS => ?_)
    · obtain ⟨rfl, hB⟩ := hB
      rcases hB with hB | hB
      · have c_6 := hB
        exact out0 htab hlocks hS hcell hv9 hcl (fun t _ hF => ⟨(), trivial, (Or.inl ⟨rfl, (Or.inr (Or.inr (Or.inl ⟨c_4, c_5, c_6⟩)))⟩), hF⟩) (fun _ h => h) rfl rfl
      · obtain ⟨c_7, c_8⟩ := hB
        exact out0 htab hlocks hS hcell hv9 hcl (fun t _ hF => ⟨(), trivial, (Or.inl ⟨rfl, (Or.inr (Or.inr (Or.inr ⟨c_4, c_5, c_7, c_8⟩)))⟩), hF⟩) (fun _ h => h) rfl rfl
    · obtain ⟨c_9, c_10⟩ := hw
      refine lv_aload_n hx hb dX11_breakChain_20 rfl (lv_at hl 0 rfl) ?_
      have hPc : va_P D vwCl [((a 0), f_x a), ((a 1), f_net a)] _ := (ro0 hP0 hS).sub (ws' := [((a 0), f_x a), ((a 1), f_net a)]) [0, 1] rfl
      have hDc : va_D (fun q => z0 ≤ q) [((a 0), f_x a), ((a 1), f_net a)] := hD0.pick (ws' := [((a 0), f_x a), ((a 1), f_net a)]) [0, 1] (by decide) rfl
      have hFc := AnA (ws := []) hS.1
      refine vx_callv (vx_runV (As := []) (rest := []) ⟨hx, hb, hml, hown, ht⟩ (k_X11_needClosedNet l hfl D g z0 _ a) (cwV 0 ht (gV w_71 w_73 w_74 w_31 w_72) rfl rfl rfl (by decide +kernel) (le2 rfl rfl)) ⟨PP.blind, va_recv hK.1 (ro0 hP0 hS) (ci := 17) (q0 := 0) rfl rfl, PP.mk' hK hZ hz hAz hS hPc hDc⟩ rfl rfl hl.1 rfl (lv_room (Nat.le_of_ble_eq_true rfl)) dX11_breakChain_21 (le2 rfl rfl)) hS (fun q _ h => hFc q h) hFc (fun q _ h => hFc q h) (fun E ce q9 u t H locs ht1 hvm hw hB hz1 hk1 hS hcell hv9 hcl => ?_) (fun u t H locs ht1 hvm hw hB hz1 hk1 hS => ?_)
      · obtain ⟨rfl, hB⟩ := hB
        exact out0 htab hlocks hS hcell hv9 hcl (fun t _ hF => ⟨(), trivial, (Or.inr ⟨rfl, ⟨c_4, c_5, c_9, c_10⟩⟩), hF⟩) (fun _ h => h) rfl rfl
      · exact hw.elim
set_option maxHeartbeats 4000000 in
set_option maxRecDepth 100000 in
theorem k_X11_needStuck (l : Launch) (hfl : l.stackTraces = false) (D : va_G) (g : Nat → ClassId) (z0 sz : Nat) (a : Nat → Nat) (p0 : Int32) : vx_Met l yX11_needStuck (.code yX11_needStuck cX11_needStuck 2 none :: TG) (rmk 7 1 6 102) (va_Pc [.ref (a 0), .int p0] (PP D g z0 sz [((a 0), f_x a), ((a 2), f_book a)])) (va_Qv (fun (u : Unit) => False) (fun (_ : Unit) (_ : State) => True) (va_A [] sz)) (vx_X (fun _ : Unit => True) (fun E _ _ => (E = "java/lang/IndexOutOfBoundsException" ∧ True)) (va_A [] sz)) 1 6 (va_A [] sz) := by
  refine vxm0 (cc := cX11_needStuck) (n := 2) (by decide) (Nat.le_of_ble_eq_true rfl) ?_
  intro p e s m args below meth c hx hb hr hml htab hown ht hlocks hnm hP0 hD0 hK hZ hsz hz ls hl
  subst hsz
  have hA : ∀ q : Nat, s.heap.size ≤ q → va_A [] s.heap.size q := Anw
  have hAz : ∀ q, va_A [] s.heap.size q → z0 ≤ q := A0z hz
  have hS : va_S (va_A [] s.heap.size) s.heap s.heap [] := va_S.rf
  have hl : lv_has ls 2 [(0, .ref (a 0)), (1, .int p0)] := hl
  refine lv_aload_n hx hb dX11_needStuck_0 rfl (lv_at hl 0 rfl) ?_
  refine lv_iload_n hx hb dX11_needStuck_1 rfl (lv_at hl 1 rfl) ?_
  have hPc : va_P D vwCl [((a 0), f_x a), ((a 2), f_book a)] _ := (ro0 hP0 hS).sub (ws' := [((a 0), f_x a), ((a 2), f_book a)]) [0, 1] rfl
  have hDc : va_D (fun q => z0 ≤ q) [((a 0), f_x a), ((a 2), f_book a)] := hD0.pick (ws' := [((a 0), f_x a), ((a 2), f_book a)]) [0, 1] (by decide) rfl
  have hFc := AnA (ws := []) hS.1
  refine vx_callv (vx_runV (As := [.int p0]) (rest := []) ⟨hx, hb, hml, hown, ht⟩ (k_X11_needFault l hfl D g z0 _ a p0) (cwV 1 ht (gV w_37 w_39 w_40 w_31 w_38) rfl rfl rfl (by decide +kernel) (le2 rfl rfl)) ⟨PP.blind, va_recv hK.1 (ro0 hP0 hS) (ci := 17) (q0 := 0) rfl rfl, PP.mk' hK hZ hz hAz hS hPc hDc⟩ rfl rfl hl.1 rfl (lv_room (Nat.le_of_ble_eq_true rfl)) dX11_needStuck_2 (le2 rfl rfl)) hS (fun q _ h => hFc q h) hFc (fun q _ h => hFc q h) (fun E ce q9 u t H locs ht1 hvm hw hB hz1 hk1 hS hcell hv9 hcl => ?_) (fun u t H locs ht1 hvm hw hB hz1 hk1 hS => ?_)
  · obtain ⟨rfl, hB⟩ := hB
    exact out0 htab hlocks hS hcell hv9 hcl (fun t _ hF => ⟨(), trivial, ⟨rfl, trivial⟩, hF⟩) (fun _ h => h) rfl rfl
  · exact hw.elim
set_option maxHeartbeats 4000000 in
set_option maxRecDepth 100000 in
theorem k_X11_breakChip (l : Launch) (hfl : l.stackTraces = false) (D : va_G) (g : Nat → ClassId) (z0 sz : Nat) (a : Nat → Nat) (p0 : Int32) : vx_Met l yX11_breakChip (.code yX11_breakChip cX11_breakChip 2 (some .int) :: TG) (rmk 8 1 6 123) (va_Pc [.ref (a 0), .int p0] (PP D g z0 sz [((a 0), f_x a), ((a 2), f_book a)])) (va_Qi (fun (r : Int32) (u : Unit) => False) (fun (_ : Unit) (_ : State) => True) (va_A [] sz)) (vx_X (fun _ : Unit => True) (fun E _ _ => (E = "java/lang/IndexOutOfBoundsException" ∧ True)) (va_A [] sz)) 1 6 (va_A [] sz) := by
  refine vxm0 (cc := cX11_breakChip) (n := 2) (by decide) (Nat.le_of_ble_eq_true rfl) ?_
  intro p e s m args below meth c hx hb hr hml htab hown ht hlocks hnm hP0 hD0 hK hZ hsz hz ls hl
  subst hsz
  have hA : ∀ q : Nat, s.heap.size ≤ q → va_A [] s.heap.size q := Anw
  have hAz : ∀ q, va_A [] s.heap.size q → z0 ≤ q := A0z hz
  have hS : va_S (va_A [] s.heap.size) s.heap s.heap [] := va_S.rf
  have hl : lv_has ls 2 [(0, .ref (a 0)), (1, .int p0)] := hl
  refine lv_aload_n hx hb dX11_breakChip_0 rfl (lv_at hl 0 rfl) ?_
  refine lv_iload_n hx hb dX11_breakChip_1 rfl (lv_at hl 1 rfl) ?_
  have hPc : va_P D vwCl [((a 0), f_x a), ((a 2), f_book a)] _ := (ro0 hP0 hS).sub (ws' := [((a 0), f_x a), ((a 2), f_book a)]) [0, 1] rfl
  have hDc : va_D (fun q => z0 ≤ q) [((a 0), f_x a), ((a 2), f_book a)] := hD0.pick (ws' := [((a 0), f_x a), ((a 2), f_book a)]) [0, 1] (by decide) rfl
  have hFc := AnA (ws := []) hS.1
  refine vx_callv (vx_runV (As := [.int p0]) (rest := []) ⟨hx, hb, hml, hown, ht⟩ (k_X11_needStuck l hfl D g z0 _ a p0) (cwV 1 ht (gV w_75 w_77 w_78 w_31 w_76) rfl rfl rfl (by decide +kernel) (le2 rfl rfl)) ⟨PP.blind, va_recv hK.1 (ro0 hP0 hS) (ci := 17) (q0 := 0) rfl rfl, PP.mk' hK hZ hz hAz hS hPc hDc⟩ rfl rfl hl.1 rfl (lv_room (Nat.le_of_ble_eq_true rfl)) dX11_breakChip_2 (le2 rfl rfl)) hS (fun q _ h => hFc q h) hFc (fun q _ h => hFc q h) (fun E ce q9 u t H locs ht1 hvm hw hB hz1 hk1 hS hcell hv9 hcl => ?_) (fun u t H locs ht1 hvm hw hB hz1 hk1 hS => ?_)
  · obtain ⟨rfl, hB⟩ := hB
    exact out0 htab hlocks hS hcell hv9 hcl (fun t _ hF => ⟨(), trivial, ⟨rfl, trivial⟩, hF⟩) (fun _ h => h) rfl rfl
  · exact hw.elim
set_option maxHeartbeats 4000000 in
set_option maxRecDepth 100000 in
theorem k_X11_needLine (l : Launch) (hfl : l.stackTraces = false) (D : va_G) (g : Nat → ClassId) (z0 sz : Nat) (a : Nat → Nat) (p0 : Int32) : vx_Met l yX11_needLine (.code yX11_needLine cX11_needLine 2 none :: TG) (rmk 6 1 6 81) (va_Pc [.ref (a 0), .int p0] (PP D g z0 sz [((a 0), f_x a), ((a 1), f_net a)])) (va_Qv (fun (u : Unit) => False) (fun (_ : Unit) (_ : State) => True) (va_A [] sz)) (vx_X (fun _ : Unit => True) (fun E _ _ => (E = "java/lang/IndexOutOfBoundsException" ∧ True)) (va_A [] sz)) 1 6 (va_A [] sz) := by
  refine vxm0 (cc := cX11_needLine) (n := 2) (by decide) (Nat.le_of_ble_eq_true rfl) ?_
  intro p e s m args below meth c hx hb hr hml htab hown ht hlocks hnm hP0 hD0 hK hZ hsz hz ls hl
  subst hsz
  have hA : ∀ q : Nat, s.heap.size ≤ q → va_A [] s.heap.size q := Anw
  have hAz : ∀ q, va_A [] s.heap.size q → z0 ≤ q := A0z hz
  have hS : va_S (va_A [] s.heap.size) s.heap s.heap [] := va_S.rf
  have hl : lv_has ls 2 [(0, .ref (a 0)), (1, .int p0)] := hl
  refine lv_iload_n hx hb dX11_needLine_0 rfl (lv_at hl 1 rfl) ?_
  refine lv_if_lt (tgt := 15) hx hb dX11_needLine_1 (by decide) (fun c_1 => ?_) (fun c_1 => ?_)
  · exact thr0 hx hb hfl hown ht hK.2.2 hZ hAz hS hl hml htab hlocks (by decide +kernel) w_35 w_36 at_X11_102 dX11_needLine_15 dX11_needLine_18 dX11_needLine_19 dX11_needLine_22 rfl rfl rfl rfl (fun t _ hF => ⟨(), trivial, ⟨rfl, trivial⟩, hF⟩) (fun _ h => h) rfl rfl
  · refine lv_iload_n hx hb dX11_needLine_4 rfl (lv_at hl 1 rfl) ?_
    refine lv_aload_n hx hb dX11_needLine_5 rfl (lv_at hl 0 rfl) ?_
    refine va_get (D := D) (ci := 17) (v := .ref (a 1)) (C := RX11) (T := TX11) (N := 11) hx hb ht in_X11 hown hK.1 (ro0 hP0 hS) 0 rfl rfl 0 (by decide) (ht _ w_66) (fun _ h9 => h9) rfl dX11_needLine_6 ?_
    refine va_get (D := D) (ci := 12) (v := .int 0) (C := RX6) (T := TX6) (N := 18) hx hb ht in_X6 hown hK.1 (ro0 hP0 hS) 1 rfl rfl 12 (by decide) (ht _ w_79) (fun _ h9 => h9) rfl dX11_needLine_9 ?_
    refine lv_icmp_lt (tgt := 23) hx hb dX11_needLine_12 (by decide) (fun c_2 => ?_) (fun c_2 => ?_)
    · exact absurd c_2 c_1
    · exact thr0 hx hb hfl hown ht hK.2.2 hZ hAz hS hl hml htab hlocks (by decide +kernel) w_35 w_36 at_X11_102 dX11_needLine_15 dX11_needLine_18 dX11_needLine_19 dX11_needLine_22 rfl rfl rfl rfl (fun t _ hF => ⟨(), trivial, ⟨rfl, trivial⟩, hF⟩) (fun _ h => h) rfl rfl
set_option maxHeartbeats 4000000 in
set_option maxRecDepth 100000 in
theorem k_X11_bridge (l : Launch) (hfl : l.stackTraces = false) (D : va_G) (g : Nat → ClassId) (z0 sz : Nat) (a : Nat → Nat) (p0 : Int32) (p1 : Int32) (p2 : Int32) (hc_p0 : isC p0) : vx_Met l yX11_bridge (.code yX11_bridge cX11_bridge 4 (some .int) :: TG) (rmk 7 1 6 102) (va_Pc [.ref (a 0), .int p0, .int p1, .int p2] (PP D g z0 sz [((a 0), f_x a), ((a 1), f_net a)])) (va_Qi (fun (r : Int32) (u : Unit) => False) (fun (_ : Unit) (_ : State) => True) (va_A [] sz)) (vx_X (fun _ : Unit => True) (fun E _ _ => (E = "java/lang/IndexOutOfBoundsException" ∧ ((p0 = 119) ∨ ((¬ p0 = 119) ∧ (p0 = 117)) ∨ ((¬ p0 = 119) ∧ (¬ p0 = 117) ∧ (p0 = 100)))) ∨ (E = "java/lang/IllegalArgumentException" ∧ ((¬ p0 = 119) ∧ (¬ p0 = 117) ∧ (¬ p0 = 100)))) (va_A [] sz)) 1 6 (va_A [] sz) := by
  refine vxm0 (cc := cX11_bridge) (n := 4) (by decide) (Nat.le_of_ble_eq_true rfl) ?_
  intro p e s m args below meth c hx hb hr hml htab hown ht hlocks hnm hP0 hD0 hK hZ hsz hz ls hl
  subst hsz
  have hA : ∀ q : Nat, s.heap.size ≤ q → va_A [] s.heap.size q := Anw
  have hAz : ∀ q, va_A [] s.heap.size q → z0 ≤ q := A0z hz
  have hS : va_S (va_A [] s.heap.size) s.heap s.heap [] := va_S.rf
  have hl : lv_has ls 4 [(0, .ref (a 0)), (1, .int p0), (2, .int p1), (3, .int p2)] := hl
  refine lv_iload_n hx hb dX11_bridge_0 rfl (lv_at hl 1 rfl) ?_
  refine lv_bipush (v := 119) hx hb dX11_bridge_1 (by decide) ?_
  refine lv_icmp_eq (tgt := 26) hx hb dX11_bridge_3 (by decide) (fun c_1 => ?_) (fun c_1 => ?_)
  · refine lv_aload_n hx hb dX11_bridge_26 rfl (lv_at hl 0 rfl) ?_
    refine lv_iload_n hx hb dX11_bridge_27 rfl (lv_at hl 2 rfl) ?_
    have hPc : va_P D vwCl [((a 0), f_x a), ((a 1), f_net a)] _ := (ro0 hP0 hS).sub (ws' := [((a 0), f_x a), ((a 1), f_net a)]) [0, 1] rfl
    have hDc : va_D (fun q => z0 ≤ q) [((a 0), f_x a), ((a 1), f_net a)] := hD0.pick (ws' := [((a 0), f_x a), ((a 1), f_net a)]) [0, 1] (by decide) rfl
    have hFc := AnA (ws := []) hS.1
    refine vx_callv (vx_runV (As := [.int p1]) (rest := []) ⟨hx, hb, hml, hown, ht⟩ (k_X11_needLine l hfl D g z0 _ a p1) (cwV 1 ht (gV w_80 w_82 w_83 w_31 w_81) rfl rfl rfl (by decide +kernel) (le2 rfl rfl)) ⟨PP.blind, va_recv hK.1 (ro0 hP0 hS) (ci := 17) (q0 := 0) rfl rfl, PP.mk' hK hZ hz hAz hS hPc hDc⟩ rfl rfl hl.1 rfl (lv_room (Nat.le_of_ble_eq_true rfl)) dX11_bridge_28 (le2 rfl rfl)) hS (fun q _ h => hFc q h) hFc (fun q _ h => hFc q h) (fun E ce q9 u t H locs ht1 hvm hw hB hz1 hk1 hS hcell hv9 hcl => ?_) (fun u t H locs ht1 hvm hw hB hz1 hk1 hS => ?_)
    · obtain ⟨rfl, hB⟩ := hB
      exact out0 htab hlocks hS hcell hv9 hcl (fun t _ hF => ⟨(), trivial, (Or.inl ⟨rfl, (Or.inl c_1)⟩), hF⟩) (fun _ h => h) rfl rfl
    · exact hw.elim
  · refine lv_iload_n hx hb dX11_bridge_6 rfl (lv_at hl 1 rfl) ?_
    refine lv_bipush (v := 117) hx hb dX11_bridge_7 (by decide) ?_
    refine lv_icmp_eq (tgt := 26) hx hb dX11_bridge_9 (by decide) (fun c_2 => ?_) (fun c_2 => ?_)
    · refine lv_aload_n hx hb dX11_bridge_26 rfl (lv_at hl 0 rfl) ?_
      refine lv_iload_n hx hb dX11_bridge_27 rfl (lv_at hl 2 rfl) ?_
      have hPc : va_P D vwCl [((a 0), f_x a), ((a 1), f_net a)] _ := (ro0 hP0 hS).sub (ws' := [((a 0), f_x a), ((a 1), f_net a)]) [0, 1] rfl
      have hDc : va_D (fun q => z0 ≤ q) [((a 0), f_x a), ((a 1), f_net a)] := hD0.pick (ws' := [((a 0), f_x a), ((a 1), f_net a)]) [0, 1] (by decide) rfl
      have hFc := AnA (ws := []) hS.1
      refine vx_callv (vx_runV (As := [.int p1]) (rest := []) ⟨hx, hb, hml, hown, ht⟩ (k_X11_needLine l hfl D g z0 _ a p1) (cwV 1 ht (gV w_80 w_82 w_83 w_31 w_81) rfl rfl rfl (by decide +kernel) (le2 rfl rfl)) ⟨PP.blind, va_recv hK.1 (ro0 hP0 hS) (ci := 17) (q0 := 0) rfl rfl, PP.mk' hK hZ hz hAz hS hPc hDc⟩ rfl rfl hl.1 rfl (lv_room (Nat.le_of_ble_eq_true rfl)) dX11_bridge_28 (le2 rfl rfl)) hS (fun q _ h => hFc q h) hFc (fun q _ h => hFc q h) (fun E ce q9 u t H locs ht1 hvm hw hB hz1 hk1 hS hcell hv9 hcl => ?_) (fun u t H locs ht1 hvm hw hB hz1 hk1 hS => ?_)
      · obtain ⟨rfl, hB⟩ := hB
        exact out0 htab hlocks hS hcell hv9 hcl (fun t _ hF => ⟨(), trivial, (Or.inl ⟨rfl, (Or.inr (Or.inl ⟨c_1, c_2⟩))⟩), hF⟩) (fun _ h => h) rfl rfl
      · exact hw.elim
    · refine lv_iload_n hx hb dX11_bridge_12 rfl (lv_at hl 1 rfl) ?_
      refine lv_bipush (v := 100) hx hb dX11_bridge_13 (by decide) ?_
      refine lv_icmp_eq (tgt := 26) hx hb dX11_bridge_15 (by decide) (fun c_3 => ?_) (fun c_3 => ?_)
      · refine lv_aload_n hx hb dX11_bridge_26 rfl (lv_at hl 0 rfl) ?_
        refine lv_iload_n hx hb dX11_bridge_27 rfl (lv_at hl 2 rfl) ?_
        have hPc : va_P D vwCl [((a 0), f_x a), ((a 1), f_net a)] _ := (ro0 hP0 hS).sub (ws' := [((a 0), f_x a), ((a 1), f_net a)]) [0, 1] rfl
        have hDc : va_D (fun q => z0 ≤ q) [((a 0), f_x a), ((a 1), f_net a)] := hD0.pick (ws' := [((a 0), f_x a), ((a 1), f_net a)]) [0, 1] (by decide) rfl
        have hFc := AnA (ws := []) hS.1
        refine vx_callv (vx_runV (As := [.int p1]) (rest := []) ⟨hx, hb, hml, hown, ht⟩ (k_X11_needLine l hfl D g z0 _ a p1) (cwV 1 ht (gV w_80 w_82 w_83 w_31 w_81) rfl rfl rfl (by decide +kernel) (le2 rfl rfl)) ⟨PP.blind, va_recv hK.1 (ro0 hP0 hS) (ci := 17) (q0 := 0) rfl rfl, PP.mk' hK hZ hz hAz hS hPc hDc⟩ rfl rfl hl.1 rfl (lv_room (Nat.le_of_ble_eq_true rfl)) dX11_bridge_28 (le2 rfl rfl)) hS (fun q _ h => hFc q h) hFc (fun q _ h => hFc q h) (fun E ce q9 u t H locs ht1 hvm hw hB hz1 hk1 hS hcell hv9 hcl => ?_) (fun u t H locs ht1 hvm hw hB hz1 hk1 hS => ?_)
        · obtain ⟨rfl, hB⟩ := hB
          exact out0 htab hlocks hS hcell hv9 hcl (fun t _ hF => ⟨(), trivial, (Or.inl ⟨rfl, (Or.inr (Or.inr ⟨c_1, c_2, c_3⟩))⟩), hF⟩) (fun _ h => h) rfl rfl
        · exact hw.elim
      · exact thr0 hx hb hfl hown ht hK.2.2 hZ hAz hS hl hml htab hlocks (by decide +kernel) w_41 w_42 at_X11_116 dX11_bridge_18 dX11_bridge_21 dX11_bridge_22 dX11_bridge_25 rfl rfl rfl rfl (fun t _ hF => ⟨(), trivial, (Or.inr ⟨rfl, ⟨c_1, c_2, c_3⟩⟩), hF⟩) (fun _ h => h) rfl rfl
set_option maxHeartbeats 4000000 in
set_option maxRecDepth 100000 in
theorem k_X10_spread (l : Launch) (D : va_G) (g : Nat → ClassId) (z0 sz : Nat) (a : Nat → Nat) : Met l yX10_spread (.code yX10_spread cX10_spread 4 none :: TG) (rmk 0 0 0 0) (va_Pc [.ref (a 4)] (PP D g z0 sz [((a 4), .inr (16, [.ref (a 1), .ref (a 2), .ref (a 38), .ref (a 39), .ref (a 40), .ref (a 41), .ref (a 42), .ref (a 43), .ref (a 44), .ref (a 45), .ref (a 46), .ref (a 47), .long 0, .long 0, .long 0, .int 0, .int (-1)])), ((a 1), f_net a)])) (va_Qv (fun (u : Unit) => True) (fun (u : Unit) (t : State) => va_P D vwCl [((a 4), .inr (16, [.ref (a 1), .ref (a 2), .ref (a 38), .ref (a 39), .ref (a 40), .ref (a 41), .ref (a 42), .ref (a 43), .ref (a 44), .ref (a 45), .ref (a 46), .ref (a 47), .long 0, .long 0, .long 0, .int 0, .int (-1)])), ((a 1), f_net a)] t.heap ∧ va_D (va_A [((a 4), .inr (16, [.ref (a 1), .ref (a 2), .ref (a 38), .ref (a 39), .ref (a 40), .ref (a 41), .ref (a 42), .ref (a 43), .ref (a 44), .ref (a 45), .ref (a 46), .ref (a 47), .long 0, .long 0, .long 0, .int 0, .int (-1)])), ((a 1), f_net a)] sz) [((a 4), .inr (16, [.ref (a 1), .ref (a 2), .ref (a 38), .ref (a 39), .ref (a 40), .ref (a 41), .ref (a 42), .ref (a 43), .ref (a 44), .ref (a 45), .ref (a 46), .ref (a 47), .long 0, .long 0, .long 0, .int 0, .int (-1)])), ((a 1), f_net a)]) (va_A [((a 4), .inr (16, [.ref (a 1), .ref (a 2), .ref (a 38), .ref (a 39), .ref (a 40), .ref (a 41), .ref (a 42), .ref (a 43), .ref (a 44), .ref (a 45), .ref (a 46), .ref (a 47), .long 0, .long 0, .long 0, .int 0, .int (-1)])), ((a 1), f_net a)] sz)) 0 0 (va_A [((a 4), .inr (16, [.ref (a 1), .ref (a 2), .ref (a 38), .ref (a 39), .ref (a 40), .ref (a 41), .ref (a 42), .ref (a 43), .ref (a 44), .ref (a 45), .ref (a 46), .ref (a 47), .long 0, .long 0, .long 0, .int 0, .int (-1)])), ((a 1), f_net a)] sz) := by
  refine met0 (cc := cX10_spread) (n := 4) (by decide) (Nat.le_of_ble_eq_true rfl) ?_
  intro p e s m args below meth c hx hb hr hml hown ht hlocks hnm hP0 hD0 hK hZ hsz hz ls hl
  subst hsz
  have hA : ∀ q : Nat, s.heap.size ≤ q → va_A [((a 4), .inr (16, [.ref (a 1), .ref (a 2), .ref (a 38), .ref (a 39), .ref (a 40), .ref (a 41), .ref (a 42), .ref (a 43), .ref (a 44), .ref (a 45), .ref (a 46), .ref (a 47), .long 0, .long 0, .long 0, .int 0, .int (-1)])), ((a 1), f_net a)] s.heap.size q := Anw
  have hAz : ∀ q, va_A [((a 4), .inr (16, [.ref (a 1), .ref (a 2), .ref (a 38), .ref (a 39), .ref (a 40), .ref (a 41), .ref (a 42), .ref (a 43), .ref (a 44), .ref (a 45), .ref (a 46), .ref (a 47), .long 0, .long 0, .long 0, .int 0, .int (-1)])), ((a 1), f_net a)] s.heap.size q → z0 ≤ q := Awz hz hD0
  have hS : va_S (va_A [((a 4), .inr (16, [.ref (a 1), .ref (a 2), .ref (a 38), .ref (a 39), .ref (a 40), .ref (a 41), .ref (a 42), .ref (a 43), .ref (a 44), .ref (a 45), .ref (a 46), .ref (a 47), .long 0, .long 0, .long 0, .int 0, .int (-1)])), ((a 1), f_net a)] s.heap.size) s.heap s.heap [] := va_S.rf
  have hD : va_D (va_A [((a 4), .inr (16, [.ref (a 1), .ref (a 2), .ref (a 38), .ref (a 39), .ref (a 40), .ref (a 41), .ref (a 42), .ref (a 43), .ref (a 44), .ref (a 45), .ref (a 46), .ref (a 47), .long 0, .long 0, .long 0, .int 0, .int (-1)])), ((a 1), f_net a)] s.heap.size) [((a 4), .inr (16, [.ref (a 1), .ref (a 2), .ref (a 38), .ref (a 39), .ref (a 40), .ref (a 41), .ref (a 42), .ref (a 43), .ref (a 44), .ref (a 45), .ref (a 46), .ref (a 47), .long 0, .long 0, .long 0, .int 0, .int (-1)])), ((a 1), f_net a)] := hD0.self
  have hP : va_P D vwCl [((a 4), .inr (16, [.ref (a 1), .ref (a 2), .ref (a 38), .ref (a 39), .ref (a 40), .ref (a 41), .ref (a 42), .ref (a 43), .ref (a 44), .ref (a 45), .ref (a 46), .ref (a 47), .long 0, .long 0, .long 0, .int 0, .int (-1)])), ((a 1), f_net a)] s.heap := hP0
  have hl : lv_has ls 4 [(0, .ref (a 4))] := hl
  refine lv_aload_n hx hb dX10_spread_0 rfl (lv_at hl 0 rfl) ?_
  refine lv_lconst (v := 0) hx hb dX10_spread_1 (by decide) ?_
  refine va_put (D := D) (ci := 16) (v := .long 0) (ty := .long) (C := RX10) (T := TX10) (N := 17) hx hb ht in_X10 tyX10 tyX10_ok nmX10 hown hK.1 hP hD hS 0 rfl rfl 14 (by decide) (ht _ w_19) (fun _ h9 => h9) rfl (by decide +kernel) rfl rfl (Nat.le_of_ble_eq_true rfl) dX10_spread_2 (fun H locs hP hD hS => ?_)
  have hP : va_P D vwCl [((a 4), .inr (16, [.ref (a 1), .ref (a 2), .ref (a 38), .ref (a 39), .ref (a 40), .ref (a 41), .ref (a 42), .ref (a 43), .ref (a 44), .ref (a 45), .ref (a 46), .ref (a 47), .long 0, .long 0, .long 0, .int 0, .int (-1)])), ((a 1), f_net a)] H := hP
  have hD : va_D (va_A [((a 4), .inr (16, [.ref (a 1), .ref (a 2), .ref (a 38), .ref (a 39), .ref (a 40), .ref (a 41), .ref (a 42), .ref (a 43), .ref (a 44), .ref (a 45), .ref (a 46), .ref (a 47), .long 0, .long 0, .long 0, .int 0, .int (-1)])), ((a 1), f_net a)] s.heap.size) [((a 4), .inr (16, [.ref (a 1), .ref (a 2), .ref (a 38), .ref (a 39), .ref (a 40), .ref (a 41), .ref (a 42), .ref (a 43), .ref (a 44), .ref (a 45), .ref (a 46), .ref (a 47), .long 0, .long 0, .long 0, .int 0, .int (-1)])), ((a 1), f_net a)] := hD
  refine lv_aload_n hx hb dX10_spread_5 rfl (lv_at hl 0 rfl) ?_
  refine va_get (D := D) (ci := 16) (v := .int 0) (C := RX10) (T := TX10) (N := 17) hx hb ht in_X10 hown hK.1 hP 0 rfl rfl 15 (by decide) (ht _ w_91) (fun _ h9 => h9) rfl dX10_spread_6 ?_
  refine lv_istore_n (lv' := [(1, .int 0), (0, .ref (a 4))]) hx hb dX10_spread_9 rfl hl (by decide) rfl (fun ls hl => ?_)
  refine lv_iload_n hx hb dX10_spread_10 rfl (lv_at hl 0 rfl) ?_
  refine lv_aload_n hx hb dX10_spread_11 rfl (lv_at hl 1 rfl) ?_
  refine va_get (D := D) (ci := 16) (v := .ref (a 1)) (C := RX10) (T := TX10) (N := 17) hx hb ht in_X10 hown hK.1 hP 0 rfl rfl 0 (by decide) (ht _ w_20) (fun _ h9 => h9) rfl dX10_spread_12 ?_
  refine va_get (D := D) (ci := 12) (v := .int 0) (C := RX6) (T := TX6) (N := 18) hx hb ht in_X6 hown hK.1 hP 1 rfl rfl 12 (by decide) (ht _ w_21) (fun _ h9 => h9) rfl dX10_spread_15 ?_
  refine lv_icmp_ge (tgt := 167) hx hb dX10_spread_18 (by decide) (fun c_1 => ?_) (fun c_1 => ?_)
  · have hP9 := hP.sub (ws' := [((a 4), .inr (16, [.ref (a 1), .ref (a 2), .ref (a 38), .ref (a 39), .ref (a 40), .ref (a 41), .ref (a 42), .ref (a 43), .ref (a 44), .ref (a 45), .ref (a 46), .ref (a 47), .long 0, .long 0, .long 0, .int 0, .int (-1)])), ((a 1), f_net a)]) [0, 1] rfl
    have hD9 := hD.sub (ws' := [((a 4), .inr (16, [.ref (a 1), .ref (a 2), .ref (a 38), .ref (a 39), .ref (a 40), .ref (a 41), .ref (a 42), .ref (a 43), .ref (a 44), .ref (a 45), .ref (a 46), .ref (a 47), .long 0, .long 0, .long 0, .int 0, .int (-1)])), ((a 1), f_net a)]) [0, 1] (by decide) rfl
    refine W.widen (k := 0) (n := 0) (Nat.le_of_ble_eq_true rfl) (Nat.le_of_ble_eq_true rfl) ?_
    exact W.vret hx hb hr (fun t ht9 hW9 => ⟨⟨(), rfl, trivial, ⟨(by rw [ht9]; exact hP9), hD9⟩⟩, hS.F ht9⟩) hS.2.2 dX10_spread_167 hlocks
  · exact absurd c_1 (by decide)
set_option maxHeartbeats 4000000 in
set_option maxRecDepth 100000 in
theorem k_X10_runSeveral (l : Launch) (D : va_G) (g : Nat → ClassId) (z0 sz : Nat) (a : Nat → Nat) : Met l yX10_runSeveral (.code yX10_runSeveral cX10_runSeveral 4 none :: TG) (rmk 1 0 0 23) (va_Pc [.ref (a 4), .ref (a 53), .int 0] (PP D g z0 sz [((a 4), f_words a), ((a 1), f_net a)])) (va_Qv (fun (u : Unit) => True) (fun (u : Unit) (t : State) => va_P D vwCl [((a 4), f_words a), ((a 1), f_net a)] t.heap ∧ va_D (va_A [((a 4), f_words a), ((a 1), f_net a)] sz) [((a 4), f_words a), ((a 1), f_net a)]) (va_A [((a 4), f_words a), ((a 1), f_net a)] sz)) 0 0 (va_A [((a 4), f_words a), ((a 1), f_net a)] sz) := by
  refine met0 (cc := cX10_runSeveral) (n := 4) (by decide) (Nat.le_of_ble_eq_true rfl) ?_
  intro p e s m args below meth c hx hb hr hml hown ht hlocks hnm hP0 hD0 hK hZ hsz hz ls hl
  subst hsz
  have hA : ∀ q : Nat, s.heap.size ≤ q → va_A [((a 4), f_words a), ((a 1), f_net a)] s.heap.size q := Anw
  have hAz : ∀ q, va_A [((a 4), f_words a), ((a 1), f_net a)] s.heap.size q → z0 ≤ q := Awz hz hD0
  have hS : va_S (va_A [((a 4), f_words a), ((a 1), f_net a)] s.heap.size) s.heap s.heap [] := va_S.rf
  have hD : va_D (va_A [((a 4), f_words a), ((a 1), f_net a)] s.heap.size) [((a 4), f_words a), ((a 1), f_net a)] := hD0.self
  have hP : va_P D vwCl [((a 4), f_words a), ((a 1), f_net a)] s.heap := hP0
  have hl : lv_has ls 4 [(0, .ref (a 4)), (1, .ref (a 53)), (2, .int 0)] := hl
  refine lv_aload_n hx hb dX10_runSeveral_0 rfl (lv_at hl 0 rfl) ?_
  refine lv_aload_n hx hb dX10_runSeveral_1 rfl (lv_at hl 0 rfl) ?_
  refine va_get (D := D) (ci := 16) (v := .ref (a 1)) (C := RX10) (T := TX10) (N := 17) hx hb ht in_X10 hown hK.1 hP 0 rfl rfl 0 (by decide) (ht _ w_20) (fun _ h9 => h9) rfl dX10_runSeveral_2 ?_
  refine va_get (D := D) (ci := 12) (v := .int 0) (C := RX6) (T := TX6) (N := 18) hx hb ht in_X6 hown hK.1 hP 1 rfl rfl 12 (by decide) (ht _ w_21) (fun _ h9 => h9) rfl dX10_runSeveral_5 ?_
  refine va_put (D := D) (ci := 16) (v := .int 0) (ty := .int) (C := RX10) (T := TX10) (N := 17) hx hb ht in_X10 tyX10 tyX10_ok nmX10 hown hK.1 hP hD hS 0 rfl rfl 15 (by decide) (ht _ w_91) (fun _ h9 => h9) rfl (by decide +kernel) rfl rfl (Nat.le_of_ble_eq_true rfl) dX10_runSeveral_8 (fun H locs hP hD hS => ?_)
  have hP : va_P D vwCl [((a 4), .inr (16, [.ref (a 1), .ref (a 2), .ref (a 38), .ref (a 39), .ref (a 40), .ref (a 41), .ref (a 42), .ref (a 43), .ref (a 44), .ref (a 45), .ref (a 46), .ref (a 47), .long 0, .long 0, .long 0, .int 0, .int (-1)])), ((a 1), f_net a)] H := hP
  have hD : va_D (va_A [((a 4), f_words a), ((a 1), f_net a)] s.heap.size) [((a 4), .inr (16, [.ref (a 1), .ref (a 2), .ref (a 38), .ref (a 39), .ref (a 40), .ref (a 41), .ref (a 42), .ref (a 43), .ref (a 44), .ref (a 45), .ref (a 46), .ref (a 47), .long 0, .long 0, .long 0, .int 0, .int (-1)])), ((a 1), f_net a)] := hD
  refine lv_iconst (v := 0) hx hb dX10_runSeveral_11 (by decide) ?_
  refine lv_istore_n (lv' := [(3, .int 0), (0, .ref (a 4)), (1, .ref (a 53)), (2, .int 0)]) hx hb dX10_runSeveral_12 rfl hl (by decide) rfl (fun ls hl => ?_)
  refine lv_iload_n hx hb dX10_runSeveral_13 rfl (lv_at hl 0 rfl) ?_
  refine lv_iload_n hx hb dX10_runSeveral_14 rfl (lv_at hl 3 rfl) ?_
  refine lv_icmp_ge (tgt := 31) hx hb dX10_runSeveral_15 (by decide) (fun c_1 => ?_) (fun c_1 => ?_)
  · refine lv_aload_n hx hb dX10_runSeveral_31 rfl (lv_at hl 1 rfl) ?_
    have hPc : va_P D vwCl [((a 4), .inr (16, [.ref (a 1), .ref (a 2), .ref (a 38), .ref (a 39), .ref (a 40), .ref (a 41), .ref (a 42), .ref (a 43), .ref (a 44), .ref (a 45), .ref (a 46), .ref (a 47), .long 0, .long 0, .long 0, .int 0, .int (-1)])), ((a 1), f_net a)] _ := hP.sub (ws' := [((a 4), .inr (16, [.ref (a 1), .ref (a 2), .ref (a 38), .ref (a 39), .ref (a 40), .ref (a 41), .ref (a 42), .ref (a 43), .ref (a 44), .ref (a 45), .ref (a 46), .ref (a 47), .long 0, .long 0, .long 0, .int 0, .int (-1)])), ((a 1), f_net a)]) [0, 1] rfl
    have hDc : va_D (fun q => z0 ≤ q) [((a 4), .inr (16, [.ref (a 1), .ref (a 2), .ref (a 38), .ref (a 39), .ref (a 40), .ref (a 41), .ref (a 42), .ref (a 43), .ref (a 44), .ref (a 45), .ref (a 46), .ref (a 47), .long 0, .long 0, .long 0, .int 0, .int (-1)])), ((a 1), f_net a)] := (hD.to hAz).pick (ws' := [((a 4), .inr (16, [.ref (a 1), .ref (a 2), .ref (a 38), .ref (a 39), .ref (a 40), .ref (a 41), .ref (a 42), .ref (a 43), .ref (a 44), .ref (a 45), .ref (a 46), .ref (a 47), .long 0, .long 0, .long 0, .int 0, .int (-1)])), ((a 1), f_net a)]) [0, 1] (by decide) rfl
    have hFc := va_free (wc := [((a 4), .inr (16, [.ref (a 1), .ref (a 2), .ref (a 38), .ref (a 39), .ref (a 40), .ref (a 41), .ref (a 42), .ref (a 43), .ref (a 44), .ref (a 45), .ref (a 46), .ref (a 47), .long 0, .long 0, .long 0, .int 0, .int (-1)])), ((a 1), f_net a)]) hD hS hA [0, 1] rfl
    refine va_callv (va_runV (As := []) (rest := []) ⟨hx, hb, hml, hown, ht⟩ (k_X10_spread l D g z0 _ a) (cwV 0 ht (gV w_92 w_94 w_95 w_14 w_93) rfl rfl rfl (by decide +kernel) (le2 rfl rfl)) ⟨PP.blind, va_recv hK.1 hP (ci := 16) (q0 := 0) rfl rfl, PP.mk' hK hZ hz hAz hS hPc hDc⟩ rfl rfl hl.1 rfl (lv_room (Nat.le_of_ble_eq_true rfl)) dX10_runSeveral_32 (le2 rfl rfl)) hS (fun q _ h => hFc q h) hFc (fun u t H locs ht1 hvm hw hB hz1 hk1 hS => ?_)
    obtain ⟨hP1, hD1⟩ := hB
    rw [ht1] at hP1
    obtain ⟨hP, hD⟩ := va_join (wr := []) (w1 := [((a 4), f_words a), ((a 1), f_net a)]) hP hD [0, 1] [] rfl rfl (by decide) (by decide) hk1 hFc hP1 hD1
    have hP : va_P D vwCl [((a 4), f_words a), ((a 1), f_net a)] H := hP
    have hD : va_D (va_A [((a 4), f_words a), ((a 1), f_net a)] s.heap.size) [((a 4), f_words a), ((a 1), f_net a)] := hD
    refine lv_iconst (v := 0) hx hb dX10_runSeveral_35 (by decide) ?_
    refine lv_istore_n (lv' := [(3, .int 0), (0, .ref (a 4)), (1, .ref (a 53)), (2, .int 0)]) hx hb dX10_runSeveral_36 rfl hl (by decide) rfl (fun ls hl => ?_)
    refine lv_iload_n hx hb dX10_runSeveral_37 rfl (lv_at hl 0 rfl) ?_
    refine lv_iload_n hx hb dX10_runSeveral_38 rfl (lv_at hl 3 rfl) ?_
    refine lv_icmp_ge (tgt := 55) hx hb dX10_runSeveral_39 (by decide) (fun c_2 => ?_) (fun c_2 => ?_)
    · have hP9 := hP.sub (ws' := [((a 4), f_words a), ((a 1), f_net a)]) [0, 1] rfl
      have hD9 := hD.sub (ws' := [((a 4), f_words a), ((a 1), f_net a)]) [0, 1] (by decide) rfl
      refine W.widen (k := 0) (n := 0) (Nat.le_of_ble_eq_true rfl) (Nat.le_of_ble_eq_true rfl) ?_
      exact W.vret hx hb hr (fun t ht9 hW9 => ⟨⟨(), rfl, trivial, ⟨(by rw [ht9]; exact hP9), hD9⟩⟩, hS.F ht9⟩) hS.2.2 dX10_runSeveral_55 hlocks
    · exact absurd c_2 (by decide)
  · exact absurd c_1 (by decide)
set_option maxHeartbeats 4000000 in
set_option maxRecDepth 100000 in
theorem k_X1_runChip (l : Launch) (D : va_G) (g : Nat → ClassId) (z0 sz : Nat) (a : Nat → Nat) : Met l yX1_runChip (.code yX1_runChip cX1_runChip 2 none :: TG) (rmk 3 0 0 68) (va_Pc [.ref (a 8)] (PP D g z0 sz [((a 8), f_chip a), ((a 3), f_rows a), ((a 4), f_words a), ((a 38), .inl (g 1, 12, .inr (.inl (fun _ => 0)))), ((a 39), .inl (g 1, 12, .inr (.inl (fun _ => 0)))), ((a 1), f_net a)])) (va_Qv (fun (u : Unit) => True) (fun (u : Unit) (t : State) => va_P D vwCl [((a 8), f_chip a), ((a 3), f_rows a), ((a 38), .inl (g 1, 12, .inr (.inl (fun _ => 0)))), ((a 39), .inl (g 1, 12, .inr (.inl (fun _ => 0)))), ((a 4), f_words a), ((a 1), f_net a)] t.heap ∧ va_D (va_A [((a 8), f_chip a), ((a 3), f_rows a), ((a 4), f_words a), ((a 38), .inl (g 1, 12, .inr (.inl (fun _ => 0)))), ((a 39), .inl (g 1, 12, .inr (.inl (fun _ => 0)))), ((a 1), f_net a)] sz) [((a 8), f_chip a), ((a 3), f_rows a), ((a 38), .inl (g 1, 12, .inr (.inl (fun _ => 0)))), ((a 39), .inl (g 1, 12, .inr (.inl (fun _ => 0)))), ((a 4), f_words a), ((a 1), f_net a)]) (va_A [((a 8), f_chip a), ((a 3), f_rows a), ((a 4), f_words a), ((a 38), .inl (g 1, 12, .inr (.inl (fun _ => 0)))), ((a 39), .inl (g 1, 12, .inr (.inl (fun _ => 0)))), ((a 1), f_net a)] sz)) 0 0 (va_A [((a 8), f_chip a), ((a 3), f_rows a), ((a 4), f_words a), ((a 38), .inl (g 1, 12, .inr (.inl (fun _ => 0)))), ((a 39), .inl (g 1, 12, .inr (.inl (fun _ => 0)))), ((a 1), f_net a)] sz) := by
  refine met0 (cc := cX1_runChip) (n := 2) (by decide) (Nat.le_of_ble_eq_true rfl) ?_
  intro p e s m args below meth c hx hb hr hml hown ht hlocks hnm hP0 hD0 hK hZ hsz hz ls hl
  subst hsz
  have hA : ∀ q : Nat, s.heap.size ≤ q → va_A [((a 8), f_chip a), ((a 3), f_rows a), ((a 4), f_words a), ((a 38), .inl (g 1, 12, .inr (.inl (fun _ => 0)))), ((a 39), .inl (g 1, 12, .inr (.inl (fun _ => 0)))), ((a 1), f_net a)] s.heap.size q := Anw
  have hAz : ∀ q, va_A [((a 8), f_chip a), ((a 3), f_rows a), ((a 4), f_words a), ((a 38), .inl (g 1, 12, .inr (.inl (fun _ => 0)))), ((a 39), .inl (g 1, 12, .inr (.inl (fun _ => 0)))), ((a 1), f_net a)] s.heap.size q → z0 ≤ q := Awz hz hD0
  have hS : va_S (va_A [((a 8), f_chip a), ((a 3), f_rows a), ((a 4), f_words a), ((a 38), .inl (g 1, 12, .inr (.inl (fun _ => 0)))), ((a 39), .inl (g 1, 12, .inr (.inl (fun _ => 0)))), ((a 1), f_net a)] s.heap.size) s.heap s.heap [] := va_S.rf
  have hD : va_D (va_A [((a 8), f_chip a), ((a 3), f_rows a), ((a 4), f_words a), ((a 38), .inl (g 1, 12, .inr (.inl (fun _ => 0)))), ((a 39), .inl (g 1, 12, .inr (.inl (fun _ => 0)))), ((a 1), f_net a)] s.heap.size) [((a 8), f_chip a), ((a 3), f_rows a), ((a 4), f_words a), ((a 38), .inl (g 1, 12, .inr (.inl (fun _ => 0)))), ((a 39), .inl (g 1, 12, .inr (.inl (fun _ => 0)))), ((a 1), f_net a)] := hD0.self
  have hP : va_P D vwCl [((a 8), f_chip a), ((a 3), f_rows a), ((a 4), f_words a), ((a 38), .inl (g 1, 12, .inr (.inl (fun _ => 0)))), ((a 39), .inl (g 1, 12, .inr (.inl (fun _ => 0)))), ((a 1), f_net a)] s.heap := hP0
  have hl : lv_has ls 2 [(0, .ref (a 8))] := hl
  refine lv_aload_n hx hb dX1_runChip_0 rfl (lv_at hl 0 rfl) ?_
  refine va_get (D := D) (ci := 7) (v := .ref (a 4)) (C := RX1) (T := TX1) (N := 13) hx hb ht in_X1 hown hK.1 hP 0 rfl rfl 3 (by decide) (ht _ w_85) (fun _ h9 => h9) rfl dX1_runChip_1 ?_
  refine lv_aload_n hx hb dX1_runChip_4 rfl (lv_at hl 0 rfl) ?_
  refine va_get (D := D) (ci := 7) (v := .ref (a 3)) (C := RX1) (T := TX1) (N := 13) hx hb ht in_X1 hown hK.1 hP 0 rfl rfl 2 (by decide) (ht _ w_86) (fun _ h9 => h9) rfl dX1_runChip_5 ?_
  have hPc : va_P D vwCl [((a 3), f_rows a), ((a 4), f_words a), ((a 38), .inl (g 1, 12, .inr (.inl (fun _ => 0)))), ((a 39), .inl (g 1, 12, .inr (.inl (fun _ => 0))))] _ := hP.sub (ws' := [((a 3), f_rows a), ((a 4), f_words a), ((a 38), .inl (g 1, 12, .inr (.inl (fun _ => 0)))), ((a 39), .inl (g 1, 12, .inr (.inl (fun _ => 0))))]) [1, 2, 3, 4] rfl
  have hDc : va_D (fun q => z0 ≤ q) [((a 3), f_rows a), ((a 4), f_words a), ((a 38), .inl (g 1, 12, .inr (.inl (fun _ => 0)))), ((a 39), .inl (g 1, 12, .inr (.inl (fun _ => 0))))] := (hD.to hAz).pick (ws' := [((a 3), f_rows a), ((a 4), f_words a), ((a 38), .inl (g 1, 12, .inr (.inl (fun _ => 0)))), ((a 39), .inl (g 1, 12, .inr (.inl (fun _ => 0))))]) [1, 2, 3, 4] (by decide) rfl
  have hFc := va_free (wc := [((a 3), f_rows a), ((a 4), f_words a), ((a 38), .inl (g 1, 12, .inr (.inl (fun _ => 0)))), ((a 39), .inl (g 1, 12, .inr (.inl (fun _ => 0))))]) hD hS hA [1, 2, 3, 4] rfl
  refine va_callv (va_runV (As := [.ref (a 3)]) (rest := []) ⟨hx, hb, hml, hown, ht⟩ (k_X10_loadRows l D g z0 _ a) (cwV 1 ht (gV w_87 w_17 w_18 w_14 w_16) rfl rfl rfl (by decide +kernel) (le2 rfl rfl)) ⟨PP.blind, va_recv hK.1 hP (ci := 16) (q0 := 2) rfl rfl, PP.mk' hK hZ hz hAz hS hPc hDc⟩ rfl rfl hl.1 rfl (lv_room (Nat.le_of_ble_eq_true rfl)) dX1_runChip_8 (le2 rfl rfl)) hS (fun q _ h => hFc q h) hFc (fun u t H locs ht1 hvm hw hB hz1 hk1 hS => ?_)
  obtain ⟨hP1, hD1⟩ := hB
  rw [ht1] at hP1
  obtain ⟨hP, hD⟩ := va_join (wr := [((a 8), f_chip a), ((a 1), f_net a)]) (w1 := [((a 3), f_rows a), ((a 4), f_words a), ((a 38), .inl (g 1, 12, .inr (.inl (fun _ => 0)))), ((a 39), .inl (g 1, 12, .inr (.inl (fun _ => 0))))]) hP hD [1, 2, 3, 4] [0, 5] rfl rfl (by decide) (by decide) hk1 hFc hP1 hD1
  have hP : va_P D vwCl [((a 8), f_chip a), ((a 1), f_net a), ((a 3), f_rows a), ((a 4), f_words a), ((a 38), .inl (g 1, 12, .inr (.inl (fun _ => 0)))), ((a 39), .inl (g 1, 12, .inr (.inl (fun _ => 0))))] H := hP
  have hD : va_D (va_A [((a 8), f_chip a), ((a 3), f_rows a), ((a 4), f_words a), ((a 38), .inl (g 1, 12, .inr (.inl (fun _ => 0)))), ((a 39), .inl (g 1, 12, .inr (.inl (fun _ => 0)))), ((a 1), f_net a)] s.heap.size) [((a 8), f_chip a), ((a 1), f_net a), ((a 3), f_rows a), ((a 4), f_words a), ((a 38), .inl (g 1, 12, .inr (.inl (fun _ => 0)))), ((a 39), .inl (g 1, 12, .inr (.inl (fun _ => 0))))] := hD
  refine lv_aload_n hx hb dX1_runChip_11 rfl (lv_at hl 0 rfl) ?_
  refine va_get (D := D) (ci := 7) (v := .ref (a 4)) (C := RX1) (T := TX1) (N := 13) hx hb ht in_X1 hown hK.1 hP 0 rfl rfl 3 (by decide) (ht _ w_85) (fun _ h9 => h9) rfl dX1_runChip_12 ?_
  have hPc : va_P D vwCl [((a 4), f_words a), ((a 1), f_net a)] _ := hP.sub (ws' := [((a 4), f_words a), ((a 1), f_net a)]) [3, 1] rfl
  have hDc : va_D (fun q => z0 ≤ q) [((a 4), f_words a), ((a 1), f_net a)] := (hD.to hAz).pick (ws' := [((a 4), f_words a), ((a 1), f_net a)]) [3, 1] (by decide) rfl
  have hFc := va_free (wc := [((a 4), f_words a), ((a 1), f_net a)]) hD hS hA [3, 1] rfl
  refine va_callv (va_runV (As := []) (rest := []) ⟨hx, hb, hml, hown, ht⟩ (k_X10_runGood l D g z0 _ a) (cwV 0 ht (gV w_88 w_24 w_25 w_14 w_23) rfl rfl rfl (by decide +kernel) (le2 rfl rfl)) ⟨PP.blind, va_recv hK.1 hP (ci := 16) (q0 := 3) rfl rfl, PP.mk' hK hZ hz hAz hS hPc hDc⟩ rfl rfl hl.1 rfl (lv_room (Nat.le_of_ble_eq_true rfl)) dX1_runChip_15 (le2 rfl rfl)) hS (fun q _ h => hFc q h) hFc (fun u t H locs ht1 hvm hw hB hz1 hk1 hS => ?_)
  obtain ⟨hP1, hD1⟩ := hB
  rw [ht1] at hP1
  obtain ⟨hP, hD⟩ := va_join (wr := [((a 8), f_chip a), ((a 3), f_rows a), ((a 38), .inl (g 1, 12, .inr (.inl (fun _ => 0)))), ((a 39), .inl (g 1, 12, .inr (.inl (fun _ => 0))))]) (w1 := [((a 4), f_words a), ((a 1), f_net a)]) hP hD [3, 1] [0, 2, 4, 5] rfl rfl (by decide) (by decide) hk1 hFc hP1 hD1
  have hP : va_P D vwCl [((a 8), f_chip a), ((a 3), f_rows a), ((a 38), .inl (g 1, 12, .inr (.inl (fun _ => 0)))), ((a 39), .inl (g 1, 12, .inr (.inl (fun _ => 0)))), ((a 4), f_words a), ((a 1), f_net a)] H := hP
  have hD : va_D (va_A [((a 8), f_chip a), ((a 3), f_rows a), ((a 4), f_words a), ((a 38), .inl (g 1, 12, .inr (.inl (fun _ => 0)))), ((a 39), .inl (g 1, 12, .inr (.inl (fun _ => 0)))), ((a 1), f_net a)] s.heap.size) [((a 8), f_chip a), ((a 3), f_rows a), ((a 38), .inl (g 1, 12, .inr (.inl (fun _ => 0)))), ((a 39), .inl (g 1, 12, .inr (.inl (fun _ => 0)))), ((a 4), f_words a), ((a 1), f_net a)] := hD
  refine lv_aload_n hx hb dX1_runChip_18 rfl (lv_at hl 0 rfl) ?_
  refine va_get (D := D) (ci := 7) (v := .ref (a 4)) (C := RX1) (T := TX1) (N := 13) hx hb ht in_X1 hown hK.1 hP 0 rfl rfl 3 (by decide) (ht _ w_85) (fun _ h9 => h9) rfl dX1_runChip_19 ?_
  refine lv_aload_n hx hb dX1_runChip_22 rfl (lv_at hl 0 rfl) ?_
  refine va_get (D := D) (ci := 7) (v := .ref (a 53)) (C := RX1) (T := TX1) (N := 13) hx hb ht in_X1 hown hK.1 hP 0 rfl rfl 4 (by decide) (ht _ w_89) (fun _ h9 => h9) rfl dX1_runChip_23 ?_
  refine lv_aload_n hx hb dX1_runChip_26 rfl (lv_at hl 0 rfl) ?_
  refine va_get (D := D) (ci := 7) (v := .int 0) (C := RX1) (T := TX1) (N := 13) hx hb ht in_X1 hown hK.1 hP 0 rfl rfl 10 (by decide) (ht _ w_90) (fun _ h9 => h9) rfl dX1_runChip_27 ?_
  have hPc : va_P D vwCl [((a 4), f_words a), ((a 1), f_net a)] _ := hP.sub (ws' := [((a 4), f_words a), ((a 1), f_net a)]) [4, 5] rfl
  have hDc : va_D (fun q => z0 ≤ q) [((a 4), f_words a), ((a 1), f_net a)] := (hD.to hAz).pick (ws' := [((a 4), f_words a), ((a 1), f_net a)]) [4, 5] (by decide) rfl
  have hFc := va_free (wc := [((a 4), f_words a), ((a 1), f_net a)]) hD hS hA [4, 5] rfl
  refine va_callv (va_runV (As := [.ref (a 53), .int 0]) (rest := []) ⟨hx, hb, hml, hown, ht⟩ (k_X10_runSeveral l D g z0 _ a) (cwV 2 ht (gV w_96 w_98 w_99 w_14 w_97) rfl rfl rfl (by decide +kernel) (le2 rfl rfl)) ⟨PP.blind, va_recv hK.1 hP (ci := 16) (q0 := 4) rfl rfl, PP.mk' hK hZ hz hAz hS hPc hDc⟩ rfl rfl hl.1 rfl (lv_room (Nat.le_of_ble_eq_true rfl)) dX1_runChip_30 (le2 rfl rfl)) hS (fun q _ h => hFc q h) hFc (fun u t H locs ht1 hvm hw hB hz1 hk1 hS => ?_)
  obtain ⟨hP1, hD1⟩ := hB
  rw [ht1] at hP1
  obtain ⟨hP, hD⟩ := va_join (wr := [((a 8), f_chip a), ((a 3), f_rows a), ((a 38), .inl (g 1, 12, .inr (.inl (fun _ => 0)))), ((a 39), .inl (g 1, 12, .inr (.inl (fun _ => 0))))]) (w1 := [((a 4), f_words a), ((a 1), f_net a)]) hP hD [4, 5] [0, 1, 2, 3] rfl rfl (by decide) (by decide) hk1 hFc hP1 hD1
  have hP : va_P D vwCl [((a 8), f_chip a), ((a 3), f_rows a), ((a 38), .inl (g 1, 12, .inr (.inl (fun _ => 0)))), ((a 39), .inl (g 1, 12, .inr (.inl (fun _ => 0)))), ((a 4), f_words a), ((a 1), f_net a)] H := hP
  have hD : va_D (va_A [((a 8), f_chip a), ((a 3), f_rows a), ((a 4), f_words a), ((a 38), .inl (g 1, 12, .inr (.inl (fun _ => 0)))), ((a 39), .inl (g 1, 12, .inr (.inl (fun _ => 0)))), ((a 1), f_net a)] s.heap.size) [((a 8), f_chip a), ((a 3), f_rows a), ((a 38), .inl (g 1, 12, .inr (.inl (fun _ => 0)))), ((a 39), .inl (g 1, 12, .inr (.inl (fun _ => 0)))), ((a 4), f_words a), ((a 1), f_net a)] := hD
  refine lv_iconst (v := 0) hx hb dX1_runChip_33 (by decide) ?_
  refine lv_istore_n (lv' := [(1, .int 0), (0, .ref (a 8))]) hx hb dX1_runChip_34 rfl hl (by decide) rfl (fun ls hl => ?_)
  refine lv_iload_n hx hb dX1_runChip_35 rfl (lv_at hl 0 rfl) ?_
  refine lv_aload_n hx hb dX1_runChip_36 rfl (lv_at hl 1 rfl) ?_
  refine va_get (D := D) (ci := 7) (v := .ref (a 1)) (C := RX1) (T := TX1) (N := 13) hx hb ht in_X1 hown hK.1 hP 0 rfl rfl 0 (by decide) (ht _ w_100) (fun _ h9 => h9) rfl dX1_runChip_37 ?_
  refine va_get (D := D) (ci := 12) (v := .int 0) (C := RX6) (T := TX6) (N := 18) hx hb ht in_X6 hown hK.1 hP 5 rfl rfl 16 (by decide) (ht _ w_101) (fun _ h9 => h9) rfl dX1_runChip_40 ?_
  refine lv_icmp_ge (tgt := 74) hx hb dX1_runChip_43 (by decide) (fun c_1 => ?_) (fun c_1 => ?_)
  · have hP9 := hP.sub (ws' := [((a 8), f_chip a), ((a 3), f_rows a), ((a 38), .inl (g 1, 12, .inr (.inl (fun _ => 0)))), ((a 39), .inl (g 1, 12, .inr (.inl (fun _ => 0)))), ((a 4), f_words a), ((a 1), f_net a)]) [0, 1, 2, 3, 4, 5] rfl
    have hD9 := hD.sub (ws' := [((a 8), f_chip a), ((a 3), f_rows a), ((a 38), .inl (g 1, 12, .inr (.inl (fun _ => 0)))), ((a 39), .inl (g 1, 12, .inr (.inl (fun _ => 0)))), ((a 4), f_words a), ((a 1), f_net a)]) [0, 1, 2, 3, 4, 5] (by decide) rfl
    refine W.widen (k := 0) (n := 0) (Nat.le_of_ble_eq_true rfl) (Nat.le_of_ble_eq_true rfl) ?_
    exact W.vret hx hb hr (fun t ht9 hW9 => ⟨⟨(), rfl, trivial, ⟨(by rw [ht9]; exact hP9), hD9⟩⟩, hS.F ht9⟩) hS.2.2 dX1_runChip_74 hlocks
  · exact absurd c_1 (by decide)
set_option maxHeartbeats 4000000 in
set_option maxRecDepth 100000 in
theorem k_X1_compareAll (l : Launch) (D : va_G) (g : Nat → ClassId) (z0 sz : Nat) (a : Nat → Nat) : Met l yX1_compareAll (.code yX1_compareAll cX1_compareAll 2 none :: TG) (rmk 4 0 0 89) (va_Pc [.ref (a 8)] (PP D g z0 sz [((a 8), f_chip a), ((a 3), f_rows a), ((a 4), f_words a), ((a 38), .inl (g 1, 12, .inr (.inl (fun _ => 0)))), ((a 39), .inl (g 1, 12, .inr (.inl (fun _ => 0)))), ((a 1), f_net a), ((a 2), f_book a)])) (va_Qv (fun (u : Unit) => True) (fun (u : Unit) (t : State) => va_P D vwCl [((a 2), f_book a), ((a 8), f_chip a), ((a 3), f_rows a), ((a 38), .inl (g 1, 12, .inr (.inl (fun _ => 0)))), ((a 39), .inl (g 1, 12, .inr (.inl (fun _ => 0)))), ((a 4), f_words a), ((a 1), f_net a)] t.heap ∧ va_D (va_A [((a 8), f_chip a), ((a 3), f_rows a), ((a 4), f_words a), ((a 38), .inl (g 1, 12, .inr (.inl (fun _ => 0)))), ((a 39), .inl (g 1, 12, .inr (.inl (fun _ => 0)))), ((a 1), f_net a), ((a 2), f_book a)] sz) [((a 2), f_book a), ((a 8), f_chip a), ((a 3), f_rows a), ((a 38), .inl (g 1, 12, .inr (.inl (fun _ => 0)))), ((a 39), .inl (g 1, 12, .inr (.inl (fun _ => 0)))), ((a 4), f_words a), ((a 1), f_net a)]) (va_A [((a 8), f_chip a), ((a 3), f_rows a), ((a 4), f_words a), ((a 38), .inl (g 1, 12, .inr (.inl (fun _ => 0)))), ((a 39), .inl (g 1, 12, .inr (.inl (fun _ => 0)))), ((a 1), f_net a), ((a 2), f_book a)] sz)) 0 0 (va_A [((a 8), f_chip a), ((a 3), f_rows a), ((a 4), f_words a), ((a 38), .inl (g 1, 12, .inr (.inl (fun _ => 0)))), ((a 39), .inl (g 1, 12, .inr (.inl (fun _ => 0)))), ((a 1), f_net a), ((a 2), f_book a)] sz) := by
  refine met0 (cc := cX1_compareAll) (n := 2) (by decide) (Nat.le_of_ble_eq_true rfl) ?_
  intro p e s m args below meth c hx hb hr hml hown ht hlocks hnm hP0 hD0 hK hZ hsz hz ls hl
  subst hsz
  have hA : ∀ q : Nat, s.heap.size ≤ q → va_A [((a 8), f_chip a), ((a 3), f_rows a), ((a 4), f_words a), ((a 38), .inl (g 1, 12, .inr (.inl (fun _ => 0)))), ((a 39), .inl (g 1, 12, .inr (.inl (fun _ => 0)))), ((a 1), f_net a), ((a 2), f_book a)] s.heap.size q := Anw
  have hAz : ∀ q, va_A [((a 8), f_chip a), ((a 3), f_rows a), ((a 4), f_words a), ((a 38), .inl (g 1, 12, .inr (.inl (fun _ => 0)))), ((a 39), .inl (g 1, 12, .inr (.inl (fun _ => 0)))), ((a 1), f_net a), ((a 2), f_book a)] s.heap.size q → z0 ≤ q := Awz hz hD0
  have hS : va_S (va_A [((a 8), f_chip a), ((a 3), f_rows a), ((a 4), f_words a), ((a 38), .inl (g 1, 12, .inr (.inl (fun _ => 0)))), ((a 39), .inl (g 1, 12, .inr (.inl (fun _ => 0)))), ((a 1), f_net a), ((a 2), f_book a)] s.heap.size) s.heap s.heap [] := va_S.rf
  have hD : va_D (va_A [((a 8), f_chip a), ((a 3), f_rows a), ((a 4), f_words a), ((a 38), .inl (g 1, 12, .inr (.inl (fun _ => 0)))), ((a 39), .inl (g 1, 12, .inr (.inl (fun _ => 0)))), ((a 1), f_net a), ((a 2), f_book a)] s.heap.size) [((a 8), f_chip a), ((a 3), f_rows a), ((a 4), f_words a), ((a 38), .inl (g 1, 12, .inr (.inl (fun _ => 0)))), ((a 39), .inl (g 1, 12, .inr (.inl (fun _ => 0)))), ((a 1), f_net a), ((a 2), f_book a)] := hD0.self
  have hP : va_P D vwCl [((a 8), f_chip a), ((a 3), f_rows a), ((a 4), f_words a), ((a 38), .inl (g 1, 12, .inr (.inl (fun _ => 0)))), ((a 39), .inl (g 1, 12, .inr (.inl (fun _ => 0)))), ((a 1), f_net a), ((a 2), f_book a)] s.heap := hP0
  have hl : lv_has ls 2 [(0, .ref (a 8))] := hl
  refine lv_aload_n hx hb dX1_compareAll_0 rfl (lv_at hl 0 rfl) ?_
  have hPc : va_P D vwCl [((a 8), f_chip a), ((a 3), f_rows a), ((a 4), f_words a), ((a 38), .inl (g 1, 12, .inr (.inl (fun _ => 0)))), ((a 39), .inl (g 1, 12, .inr (.inl (fun _ => 0)))), ((a 1), f_net a)] _ := hP.sub (ws' := [((a 8), f_chip a), ((a 3), f_rows a), ((a 4), f_words a), ((a 38), .inl (g 1, 12, .inr (.inl (fun _ => 0)))), ((a 39), .inl (g 1, 12, .inr (.inl (fun _ => 0)))), ((a 1), f_net a)]) [0, 1, 2, 3, 4, 5] rfl
  have hDc : va_D (fun q => z0 ≤ q) [((a 8), f_chip a), ((a 3), f_rows a), ((a 4), f_words a), ((a 38), .inl (g 1, 12, .inr (.inl (fun _ => 0)))), ((a 39), .inl (g 1, 12, .inr (.inl (fun _ => 0)))), ((a 1), f_net a)] := (hD.to hAz).pick (ws' := [((a 8), f_chip a), ((a 3), f_rows a), ((a 4), f_words a), ((a 38), .inl (g 1, 12, .inr (.inl (fun _ => 0)))), ((a 39), .inl (g 1, 12, .inr (.inl (fun _ => 0)))), ((a 1), f_net a)]) [0, 1, 2, 3, 4, 5] (by decide) rfl
  have hFc := va_free (wc := [((a 8), f_chip a), ((a 3), f_rows a), ((a 4), f_words a), ((a 38), .inl (g 1, 12, .inr (.inl (fun _ => 0)))), ((a 39), .inl (g 1, 12, .inr (.inl (fun _ => 0)))), ((a 1), f_net a)]) hD hS hA [0, 1, 2, 3, 4, 5] rfl
  refine va_callv (va_runV (As := []) (rest := []) ⟨hx, hb, hml, hown, ht⟩ (k_X1_runChip l D g z0 _ a) (cwV 0 ht (gV w_102 w_104 w_105 w_106 w_103) rfl rfl rfl (by decide +kernel) (le2 rfl rfl)) ⟨PP.blind, va_recv hK.1 hP (ci := 7) (q0 := 0) rfl rfl, PP.mk' hK hZ hz hAz hS hPc hDc⟩ rfl rfl hl.1 rfl (lv_room (Nat.le_of_ble_eq_true rfl)) dX1_compareAll_1 (le2 rfl rfl)) hS (fun q _ h => hFc q h) hFc (fun u t H locs ht1 hvm hw hB hz1 hk1 hS => ?_)
  obtain ⟨hP1, hD1⟩ := hB
  rw [ht1] at hP1
  obtain ⟨hP, hD⟩ := va_join (wr := [((a 2), f_book a)]) (w1 := [((a 8), f_chip a), ((a 3), f_rows a), ((a 38), .inl (g 1, 12, .inr (.inl (fun _ => 0)))), ((a 39), .inl (g 1, 12, .inr (.inl (fun _ => 0)))), ((a 4), f_words a), ((a 1), f_net a)]) hP hD [0, 1, 2, 3, 4, 5] [6] rfl rfl (by decide) (by decide) hk1 hFc hP1 hD1
  have hP : va_P D vwCl [((a 2), f_book a), ((a 8), f_chip a), ((a 3), f_rows a), ((a 38), .inl (g 1, 12, .inr (.inl (fun _ => 0)))), ((a 39), .inl (g 1, 12, .inr (.inl (fun _ => 0)))), ((a 4), f_words a), ((a 1), f_net a)] H := hP
  have hD : va_D (va_A [((a 8), f_chip a), ((a 3), f_rows a), ((a 4), f_words a), ((a 38), .inl (g 1, 12, .inr (.inl (fun _ => 0)))), ((a 39), .inl (g 1, 12, .inr (.inl (fun _ => 0)))), ((a 1), f_net a), ((a 2), f_book a)] s.heap.size) [((a 2), f_book a), ((a 8), f_chip a), ((a 3), f_rows a), ((a 38), .inl (g 1, 12, .inr (.inl (fun _ => 0)))), ((a 39), .inl (g 1, 12, .inr (.inl (fun _ => 0)))), ((a 4), f_words a), ((a 1), f_net a)] := hD
  refine lv_iconst (v := 0) hx hb dX1_compareAll_4 (by decide) ?_
  refine lv_istore_n (lv' := [(1, .int 0), (0, .ref (a 8))]) hx hb dX1_compareAll_5 rfl hl (by decide) rfl (fun ls hl => ?_)
  refine lv_iload_n hx hb dX1_compareAll_6 rfl (lv_at hl 0 rfl) ?_
  refine lv_aload_n hx hb dX1_compareAll_7 rfl (lv_at hl 1 rfl) ?_
  refine va_get (D := D) (ci := 7) (v := .ref (a 2)) (C := RX1) (T := TX1) (N := 13) hx hb ht in_X1 hown hK.1 hP 1 rfl rfl 1 (by decide) (ht _ w_107) (fun _ h9 => h9) rfl dX1_compareAll_8 ?_
  refine va_get (D := D) (ci := 9) (v := .int 0) (C := RX3) (T := TX3) (N := 14) hx hb ht in_X3 hown hK.1 hP 0 rfl rfl 11 (by decide) (ht _ w_108) (fun _ h9 => h9) rfl dX1_compareAll_11 ?_
  refine lv_icmp_ge (tgt := 53) hx hb dX1_compareAll_14 (by decide) (fun c_1 => ?_) (fun c_1 => ?_)
  · have hP9 := hP.sub (ws' := [((a 2), f_book a), ((a 8), f_chip a), ((a 3), f_rows a), ((a 38), .inl (g 1, 12, .inr (.inl (fun _ => 0)))), ((a 39), .inl (g 1, 12, .inr (.inl (fun _ => 0)))), ((a 4), f_words a), ((a 1), f_net a)]) [0, 1, 2, 3, 4, 5, 6] rfl
    have hD9 := hD.sub (ws' := [((a 2), f_book a), ((a 8), f_chip a), ((a 3), f_rows a), ((a 38), .inl (g 1, 12, .inr (.inl (fun _ => 0)))), ((a 39), .inl (g 1, 12, .inr (.inl (fun _ => 0)))), ((a 4), f_words a), ((a 1), f_net a)]) [0, 1, 2, 3, 4, 5, 6] (by decide) rfl
    refine W.widen (k := 0) (n := 0) (Nat.le_of_ble_eq_true rfl) (Nat.le_of_ble_eq_true rfl) ?_
    exact W.vret hx hb hr (fun t ht9 hW9 => ⟨⟨(), rfl, trivial, ⟨(by rw [ht9]; exact hP9), hD9⟩⟩, hS.F ht9⟩) hS.2.2 dX1_compareAll_53 hlocks
  · exact absurd c_1 (by decide)
set_option maxHeartbeats 4000000 in
set_option maxRecDepth 100000 in
theorem k_X1_candidateAt (l : Launch) (D : va_G) (g : Nat → ClassId) (z0 sz : Nat) (a : Nat → Nat) (p0 : Int32) : Met l yX1_candidateAt (.code yX1_candidateAt cX1_candidateAt 3 (some .int) :: TG) (rmk 0 0 0 0) (va_Pc [.ref (a 8), .int p0] (PP D g z0 sz [((a 8), f_chip a), ((a 2), f_book a)])) (va_Qi (fun (r : Int32) (u : Unit) => (r = (-1)) ∧ True) (fun (_ : Unit) (_ : State) => True) (va_A [] sz)) 0 0 (va_A [] sz) := by
  refine met0 (cc := cX1_candidateAt) (n := 3) (by decide) (Nat.le_of_ble_eq_true rfl) ?_
  intro p e s m args below meth c hx hb hr hml hown ht hlocks hnm hP0 hD0 hK hZ hsz hz ls hl
  subst hsz
  have hA : ∀ q : Nat, s.heap.size ≤ q → va_A [] s.heap.size q := Anw
  have hAz : ∀ q, va_A [] s.heap.size q → z0 ≤ q := A0z hz
  have hS : va_S (va_A [] s.heap.size) s.heap s.heap [] := va_S.rf
  have hl : lv_has ls 3 [(0, .ref (a 8)), (1, .int p0)] := hl
  refine lv_iconst (v := 0) hx hb dX1_candidateAt_0 (by decide) ?_
  refine lv_istore_n (lv' := [(2, .int 0), (0, .ref (a 8)), (1, .int p0)]) hx hb dX1_candidateAt_1 rfl hl (by decide) rfl (fun ls hl => ?_)
  refine lv_iload_n hx hb dX1_candidateAt_2 rfl (lv_at hl 0 rfl) ?_
  refine lv_aload_n hx hb dX1_candidateAt_3 rfl (lv_at hl 1 rfl) ?_
  refine va_get (D := D) (ci := 7) (v := .ref (a 2)) (C := RX1) (T := TX1) (N := 13) hx hb ht in_X1 hown hK.1 (ro0 hP0 hS) 0 rfl rfl 1 (by decide) (ht _ w_107) (fun _ h9 => h9) rfl dX1_candidateAt_4 ?_
  refine va_get (D := D) (ci := 9) (v := .int 0) (C := RX3) (T := TX3) (N := 14) hx hb ht in_X3 hown hK.1 (ro0 hP0 hS) 1 rfl rfl 11 (by decide) (ht _ w_108) (fun _ h9 => h9) rfl dX1_candidateAt_7 ?_
  refine lv_icmp_ge (tgt := 39) hx hb dX1_candidateAt_10 (by decide) (fun c_1 => ?_) (fun c_1 => ?_)
  · refine lv_iconst (v := (-1)) hx hb dX1_candidateAt_39 (by decide) ?_
    refine W.widen (k := 0) (n := 0) (Nat.le_of_ble_eq_true rfl) (Nat.le_of_ble_eq_true rfl) ?_
    exact W.iret (v := (-1)) hx hb hr (fun t ht9 hW9 => ⟨⟨(-1), (), rfl, ⟨rfl, trivial⟩, trivial⟩, hS.F ht9⟩) hS.2.2 dX1_candidateAt_40 hlocks
  · exact absurd c_1 (by decide)
set_option maxHeartbeats 4000000 in
set_option maxRecDepth 100000 in
theorem k_X11_candidate (l : Launch) (hfl : l.stackTraces = false) (D : va_G) (g : Nat → ClassId) (z0 sz : Nat) (a : Nat → Nat) (p0 : Int32) : vx_Met l yX11_candidate (.code yX11_candidate cX11_candidate 3 (some .int) :: TG) (rmk 6 1 6 110) (va_Pc [.ref (a 0), .int p0] (PP D g z0 sz [((a 0), f_x a), ((a 8), f_chip a), ((a 3), f_rows a), ((a 4), f_words a), ((a 38), .inl (g 1, 12, .inr (.inl (fun _ => 0)))), ((a 39), .inl (g 1, 12, .inr (.inl (fun _ => 0)))), ((a 1), f_net a), ((a 2), f_book a)])) (va_Qi (fun (r : Int32) (u : Unit) => False) (fun (_ : Unit) (_ : State) => True) (va_A [((a 0), f_x a), ((a 8), f_chip a), ((a 3), f_rows a), ((a 4), f_words a), ((a 38), .inl (g 1, 12, .inr (.inl (fun _ => 0)))), ((a 39), .inl (g 1, 12, .inr (.inl (fun _ => 0)))), ((a 1), f_net a), ((a 2), f_book a)] sz)) (vx_X (fun _ : Unit => True) (fun E _ _ => (E = "java/util/NoSuchElementException" ∧ True)) (va_A [((a 0), f_x a), ((a 8), f_chip a), ((a 3), f_rows a), ((a 4), f_words a), ((a 38), .inl (g 1, 12, .inr (.inl (fun _ => 0)))), ((a 39), .inl (g 1, 12, .inr (.inl (fun _ => 0)))), ((a 1), f_net a), ((a 2), f_book a)] sz)) 1 6 (va_A [((a 0), f_x a), ((a 8), f_chip a), ((a 3), f_rows a), ((a 4), f_words a), ((a 38), .inl (g 1, 12, .inr (.inl (fun _ => 0)))), ((a 39), .inl (g 1, 12, .inr (.inl (fun _ => 0)))), ((a 1), f_net a), ((a 2), f_book a)] sz) := by
  refine vxm0 (cc := cX11_candidate) (n := 3) (by decide) (Nat.le_of_ble_eq_true rfl) ?_
  intro p e s m args below meth c hx hb hr hml htab hown ht hlocks hnm hP0 hD0 hK hZ hsz hz ls hl
  subst hsz
  have hA : ∀ q : Nat, s.heap.size ≤ q → va_A [((a 0), f_x a), ((a 8), f_chip a), ((a 3), f_rows a), ((a 4), f_words a), ((a 38), .inl (g 1, 12, .inr (.inl (fun _ => 0)))), ((a 39), .inl (g 1, 12, .inr (.inl (fun _ => 0)))), ((a 1), f_net a), ((a 2), f_book a)] s.heap.size q := Anw
  have hAz : ∀ q, va_A [((a 0), f_x a), ((a 8), f_chip a), ((a 3), f_rows a), ((a 4), f_words a), ((a 38), .inl (g 1, 12, .inr (.inl (fun _ => 0)))), ((a 39), .inl (g 1, 12, .inr (.inl (fun _ => 0)))), ((a 1), f_net a), ((a 2), f_book a)] s.heap.size q → z0 ≤ q := Awz hz hD0
  have hS : va_S (va_A [((a 0), f_x a), ((a 8), f_chip a), ((a 3), f_rows a), ((a 4), f_words a), ((a 38), .inl (g 1, 12, .inr (.inl (fun _ => 0)))), ((a 39), .inl (g 1, 12, .inr (.inl (fun _ => 0)))), ((a 1), f_net a), ((a 2), f_book a)] s.heap.size) s.heap s.heap [] := va_S.rf
  have hD : va_D (va_A [((a 0), f_x a), ((a 8), f_chip a), ((a 3), f_rows a), ((a 4), f_words a), ((a 38), .inl (g 1, 12, .inr (.inl (fun _ => 0)))), ((a 39), .inl (g 1, 12, .inr (.inl (fun _ => 0)))), ((a 1), f_net a), ((a 2), f_book a)] s.heap.size) [((a 0), f_x a), ((a 8), f_chip a), ((a 3), f_rows a), ((a 4), f_words a), ((a 38), .inl (g 1, 12, .inr (.inl (fun _ => 0)))), ((a 39), .inl (g 1, 12, .inr (.inl (fun _ => 0)))), ((a 1), f_net a), ((a 2), f_book a)] := hD0.self
  have hP : va_P D vwCl [((a 0), f_x a), ((a 8), f_chip a), ((a 3), f_rows a), ((a 4), f_words a), ((a 38), .inl (g 1, 12, .inr (.inl (fun _ => 0)))), ((a 39), .inl (g 1, 12, .inr (.inl (fun _ => 0)))), ((a 1), f_net a), ((a 2), f_book a)] s.heap := hP0
  have hl : lv_has ls 3 [(0, .ref (a 0)), (1, .int p0)] := hl
  refine lv_aload_n hx hb dX11_candidate_0 rfl (lv_at hl 0 rfl) ?_
  refine va_get (D := D) (ci := 17) (v := .ref (a 8)) (C := RX11) (T := TX11) (N := 11) hx hb ht in_X11 hown hK.1 hP 0 rfl rfl 7 (by decide) (ht _ w_84) (fun _ h9 => h9) rfl dX11_candidate_1 ?_
  have hPc : va_P D vwCl [((a 8), f_chip a), ((a 3), f_rows a), ((a 4), f_words a), ((a 38), .inl (g 1, 12, .inr (.inl (fun _ => 0)))), ((a 39), .inl (g 1, 12, .inr (.inl (fun _ => 0)))), ((a 1), f_net a), ((a 2), f_book a)] _ := hP.sub (ws' := [((a 8), f_chip a), ((a 3), f_rows a), ((a 4), f_words a), ((a 38), .inl (g 1, 12, .inr (.inl (fun _ => 0)))), ((a 39), .inl (g 1, 12, .inr (.inl (fun _ => 0)))), ((a 1), f_net a), ((a 2), f_book a)]) [1, 2, 3, 4, 5, 6, 7] rfl
  have hDc : va_D (fun q => z0 ≤ q) [((a 8), f_chip a), ((a 3), f_rows a), ((a 4), f_words a), ((a 38), .inl (g 1, 12, .inr (.inl (fun _ => 0)))), ((a 39), .inl (g 1, 12, .inr (.inl (fun _ => 0)))), ((a 1), f_net a), ((a 2), f_book a)] := (hD.to hAz).pick (ws' := [((a 8), f_chip a), ((a 3), f_rows a), ((a 4), f_words a), ((a 38), .inl (g 1, 12, .inr (.inl (fun _ => 0)))), ((a 39), .inl (g 1, 12, .inr (.inl (fun _ => 0)))), ((a 1), f_net a), ((a 2), f_book a)]) [1, 2, 3, 4, 5, 6, 7] (by decide) rfl
  have hFc := va_free (wc := [((a 8), f_chip a), ((a 3), f_rows a), ((a 4), f_words a), ((a 38), .inl (g 1, 12, .inr (.inl (fun _ => 0)))), ((a 39), .inl (g 1, 12, .inr (.inl (fun _ => 0)))), ((a 1), f_net a), ((a 2), f_book a)]) hD hS hA [1, 2, 3, 4, 5, 6, 7] rfl
  refine va_callv (va_runV (As := []) (rest := []) ⟨hx, hb, hml, hown, ht⟩ (k_X1_compareAll l D g z0 _ a) (cwV 0 ht (gV w_109 w_111 w_112 w_106 w_110) rfl rfl rfl (by decide +kernel) (le2 rfl rfl)) ⟨PP.blind, va_recv hK.1 hP (ci := 7) (q0 := 1) rfl rfl, PP.mk' hK hZ hz hAz hS hPc hDc⟩ rfl rfl hl.1 rfl (lv_room (Nat.le_of_ble_eq_true rfl)) dX11_candidate_4 (le2 rfl rfl)) hS (fun q _ h => hFc q h) hFc (fun u t H locs ht1 hvm hw hB hz1 hk1 hS => ?_)
  obtain ⟨hP1, hD1⟩ := hB
  rw [ht1] at hP1
  obtain ⟨hP, hD⟩ := va_join (wr := [((a 0), f_x a)]) (w1 := [((a 2), f_book a), ((a 8), f_chip a), ((a 3), f_rows a), ((a 38), .inl (g 1, 12, .inr (.inl (fun _ => 0)))), ((a 39), .inl (g 1, 12, .inr (.inl (fun _ => 0)))), ((a 4), f_words a), ((a 1), f_net a)]) hP hD [1, 2, 3, 4, 5, 6, 7] [0] rfl rfl (by decide) (by decide) hk1 hFc hP1 hD1
  have hP : va_P D vwCl [((a 0), f_x a), ((a 2), f_book a), ((a 8), f_chip a), ((a 3), f_rows a), ((a 38), .inl (g 1, 12, .inr (.inl (fun _ => 0)))), ((a 39), .inl (g 1, 12, .inr (.inl (fun _ => 0)))), ((a 4), f_words a), ((a 1), f_net a)] H := hP
  have hD : va_D (va_A [((a 0), f_x a), ((a 8), f_chip a), ((a 3), f_rows a), ((a 4), f_words a), ((a 38), .inl (g 1, 12, .inr (.inl (fun _ => 0)))), ((a 39), .inl (g 1, 12, .inr (.inl (fun _ => 0)))), ((a 1), f_net a), ((a 2), f_book a)] s.heap.size) [((a 0), f_x a), ((a 2), f_book a), ((a 8), f_chip a), ((a 3), f_rows a), ((a 38), .inl (g 1, 12, .inr (.inl (fun _ => 0)))), ((a 39), .inl (g 1, 12, .inr (.inl (fun _ => 0)))), ((a 4), f_words a), ((a 1), f_net a)] := hD
  refine lv_aload_n hx hb dX11_candidate_7 rfl (lv_at hl 0 rfl) ?_
  refine va_get (D := D) (ci := 17) (v := .ref (a 8)) (C := RX11) (T := TX11) (N := 11) hx hb ht in_X11 hown hK.1 hP 0 rfl rfl 7 (by decide) (ht _ w_84) (fun _ h9 => h9) rfl dX11_candidate_8 ?_
  refine lv_iload_n hx hb dX11_candidate_11 rfl (lv_at hl 1 rfl) ?_
  have hPc : va_P D vwCl [((a 8), f_chip a), ((a 2), f_book a)] _ := hP.sub (ws' := [((a 8), f_chip a), ((a 2), f_book a)]) [2, 1] rfl
  have hDc : va_D (fun q => z0 ≤ q) [((a 8), f_chip a), ((a 2), f_book a)] := (hD.to hAz).pick (ws' := [((a 8), f_chip a), ((a 2), f_book a)]) [2, 1] (by decide) rfl
  have hFc := AnA (ws := [((a 0), f_x a), ((a 8), f_chip a), ((a 3), f_rows a), ((a 4), f_words a), ((a 38), .inl (g 1, 12, .inr (.inl (fun _ => 0)))), ((a 39), .inl (g 1, 12, .inr (.inl (fun _ => 0)))), ((a 1), f_net a), ((a 2), f_book a)]) hS.1
  refine va_calli (va_runV (As := [.int p0]) (rest := []) ⟨hx, hb, hml, hown, ht⟩ (k_X1_candidateAt l D g z0 _ a p0) (cwV 1 ht (gV w_113 w_115 w_116 w_106 w_114) rfl rfl rfl (by decide +kernel) (le2 rfl rfl)) ⟨PP.blind, va_recv hK.1 hP (ci := 7) (q0 := 2) rfl rfl, PP.mk' hK hZ hz hAz hS hPc hDc⟩ rfl rfl hl.1 rfl (lv_room (Nat.le_of_ble_eq_true rfl)) dX11_candidate_12 (le2 rfl rfl)) hS (fun q _ h => hFc q h) hFc (fun r u t H locs ht1 hvm hw hB hz1 hk1 hS => ?_)
  obtain ⟨rfl, hw⟩ := hw
  have hP := ro1 hP hk1
  refine lv_istore_n (lv' := [(2, .int (-1)), (0, .ref (a 0)), (1, .int p0)]) hx hb dX11_candidate_15 rfl hl (by decide) rfl (fun ls hl => ?_)
  refine lv_iload_n hx hb dX11_candidate_16 rfl (lv_at hl 0 rfl) ?_
  refine lv_if_ge (tgt := 28) hx hb dX11_candidate_17 (by decide) (fun c_1 => ?_) (fun c_1 => ?_)
  · exact absurd c_1 (by decide)
  · exact thr0 hx hb hfl hown ht hK.2.2 hZ hAz hS hl hml htab hlocks (by decide +kernel) w_117 w_118 at_X11_312 dX11_candidate_20 dX11_candidate_23 dX11_candidate_24 dX11_candidate_27 rfl rfl rfl rfl (fun t _ hF => ⟨(), trivial, ⟨rfl, trivial⟩, hF⟩) (fun _ h => h) rfl rfl
set_option maxHeartbeats 4000000 in
set_option maxRecDepth 100000 in
theorem k_X11_needOpenNet (l : Launch) (D : va_G) (g : Nat → ClassId) (z0 sz : Nat) (a : Nat → Nat) : Met l yX11_needOpenNet (.code yX11_needOpenNet cX11_needOpenNet 1 none :: TG) (rmk 0 0 0 0) (va_Pc [.ref (a 0)] (PP D g z0 sz [((a 0), f_x a), ((a 1), f_net a)])) (va_Qv (fun (u : Unit) => True) (fun (_ : Unit) (_ : State) => True) (va_A [] sz)) 0 0 (va_A [] sz) := by
  refine met0 (cc := cX11_needOpenNet) (n := 1) (by decide) (Nat.le_of_ble_eq_true rfl) ?_
  intro p e s m args below meth c hx hb hr hml hown ht hlocks hnm hP0 hD0 hK hZ hsz hz ls hl
  subst hsz
  have hA : ∀ q : Nat, s.heap.size ≤ q → va_A [] s.heap.size q := Anw
  have hAz : ∀ q, va_A [] s.heap.size q → z0 ≤ q := A0z hz
  have hS : va_S (va_A [] s.heap.size) s.heap s.heap [] := va_S.rf
  have hl : lv_has ls 1 [(0, .ref (a 0))] := hl
  refine lv_aload_n hx hb dX11_needOpenNet_0 rfl (lv_at hl 0 rfl) ?_
  refine va_get (D := D) (ci := 17) (v := .ref (a 1)) (C := RX11) (T := TX11) (N := 11) hx hb ht in_X11 hown hK.1 (ro0 hP0 hS) 0 rfl rfl 0 (by decide) (ht _ w_66) (fun _ h9 => h9) rfl dX11_needOpenNet_1 ?_
  refine va_get (D := D) (ci := 12) (v := .int 0) (C := RX6) (T := TX6) (N := 18) hx hb ht in_X6 hown hK.1 (ro0 hP0 hS) 1 rfl rfl 17 (by decide) (ht _ w_68) (fun _ h9 => h9) rfl dX11_needOpenNet_4 ?_
  refine lv_if_eq (tgt := 18) hx hb dX11_needOpenNet_7 (by decide) (fun c_1 => ?_) (fun c_1 => ?_)
  · refine W.widen (k := 0) (n := 0) (Nat.le_of_ble_eq_true rfl) (Nat.le_of_ble_eq_true rfl) ?_
    exact W.vret hx hb hr (fun t ht9 hW9 => ⟨⟨(), rfl, trivial, trivial⟩, hS.F ht9⟩) hS.2.2 dX11_needOpenNet_18 hlocks
  · exact absurd c_1 (by decide)
set_option maxHeartbeats 4000000 in
set_option maxRecDepth 100000 in
theorem k_X6_addSource (l : Launch) (D : va_G) (g : Nat → ClassId) (z0 sz : Nat) (a : Nat → Nat) : Met l yX6_addSource (.code yX6_addSource cX6_addSource 3 (some .int) :: TG) (rmk 0 0 0 0) (va_Pc [.ref (a 1), .int 1] (PP D g z0 sz [((a 1), f_net a), ((a 12), .inl (g 2, 40, .inl (fun _ => 0))), ((a 19), .inl (g 1, 40, .inr (.inl (fun _ => 0)))), ((a 18), .inl (g 0, 40, .inl (fun _ => (-1)))), ((a 20), .inl (g 0, 12, .inl (fun _ => 0)))])) (va_Qi (fun (r : Int32) (u : Unit) => (r = 0) ∧ True) (fun (u : Unit) (t : State) => va_P D vwCl [((a 1), .inr (12, [.ref (a 12), .ref (a 13), .ref (a 14), .ref (a 15), .ref (a 16), .ref (a 17), .ref (a 18), .ref (a 19), .ref (a 20), .ref (a 21), .ref (a 22), .ref (a 23), .int 1, .int 1, .int 1, .int 0, .int 0, .int 0])), ((a 12), .inl (g 2, 40, .inl (upd (fun _ => 0) (0 : Int32).toNatClampNeg (vp_nar .char 102)))), ((a 19), .inl (g 1, 40, .inr (.inl (vp_updL (fun _ => 0) (0 : Int32).toNatClampNeg 1)))), ((a 18), .inl (g 0, 40, .inl (upd (fun _ => (-1)) (0 : Int32).toNatClampNeg 0))), ((a 20), .inl (g 0, 12, .inl (upd (fun _ => 0) (0 : Int32).toNatClampNeg 0)))] t.heap ∧ va_D (va_A [((a 1), f_net a), ((a 12), .inl (g 2, 40, .inl (fun _ => 0))), ((a 19), .inl (g 1, 40, .inr (.inl (fun _ => 0)))), ((a 18), .inl (g 0, 40, .inl (fun _ => (-1)))), ((a 20), .inl (g 0, 12, .inl (fun _ => 0)))] sz) [((a 1), .inr (12, [.ref (a 12), .ref (a 13), .ref (a 14), .ref (a 15), .ref (a 16), .ref (a 17), .ref (a 18), .ref (a 19), .ref (a 20), .ref (a 21), .ref (a 22), .ref (a 23), .int 1, .int 1, .int 1, .int 0, .int 0, .int 0])), ((a 12), .inl (g 2, 40, .inl (upd (fun _ => 0) (0 : Int32).toNatClampNeg (vp_nar .char 102)))), ((a 19), .inl (g 1, 40, .inr (.inl (vp_updL (fun _ => 0) (0 : Int32).toNatClampNeg 1)))), ((a 18), .inl (g 0, 40, .inl (upd (fun _ => (-1)) (0 : Int32).toNatClampNeg 0))), ((a 20), .inl (g 0, 12, .inl (upd (fun _ => 0) (0 : Int32).toNatClampNeg 0)))]) (va_A [((a 1), f_net a), ((a 12), .inl (g 2, 40, .inl (fun _ => 0))), ((a 19), .inl (g 1, 40, .inr (.inl (fun _ => 0)))), ((a 18), .inl (g 0, 40, .inl (fun _ => (-1)))), ((a 20), .inl (g 0, 12, .inl (fun _ => 0)))] sz)) 0 0 (va_A [((a 1), f_net a), ((a 12), .inl (g 2, 40, .inl (fun _ => 0))), ((a 19), .inl (g 1, 40, .inr (.inl (fun _ => 0)))), ((a 18), .inl (g 0, 40, .inl (fun _ => (-1)))), ((a 20), .inl (g 0, 12, .inl (fun _ => 0)))] sz) := by
  refine met0 (cc := cX6_addSource) (n := 3) (by decide) (Nat.le_of_ble_eq_true rfl) ?_
  intro p e s m args below meth c hx hb hr hml hown ht hlocks hnm hP0 hD0 hK hZ hsz hz ls hl
  subst hsz
  have hA : ∀ q : Nat, s.heap.size ≤ q → va_A [((a 1), f_net a), ((a 12), .inl (g 2, 40, .inl (fun _ => 0))), ((a 19), .inl (g 1, 40, .inr (.inl (fun _ => 0)))), ((a 18), .inl (g 0, 40, .inl (fun _ => (-1)))), ((a 20), .inl (g 0, 12, .inl (fun _ => 0)))] s.heap.size q := Anw
  have hAz : ∀ q, va_A [((a 1), f_net a), ((a 12), .inl (g 2, 40, .inl (fun _ => 0))), ((a 19), .inl (g 1, 40, .inr (.inl (fun _ => 0)))), ((a 18), .inl (g 0, 40, .inl (fun _ => (-1)))), ((a 20), .inl (g 0, 12, .inl (fun _ => 0)))] s.heap.size q → z0 ≤ q := Awz hz hD0
  have hS : va_S (va_A [((a 1), f_net a), ((a 12), .inl (g 2, 40, .inl (fun _ => 0))), ((a 19), .inl (g 1, 40, .inr (.inl (fun _ => 0)))), ((a 18), .inl (g 0, 40, .inl (fun _ => (-1)))), ((a 20), .inl (g 0, 12, .inl (fun _ => 0)))] s.heap.size) s.heap s.heap [] := va_S.rf
  have hD : va_D (va_A [((a 1), f_net a), ((a 12), .inl (g 2, 40, .inl (fun _ => 0))), ((a 19), .inl (g 1, 40, .inr (.inl (fun _ => 0)))), ((a 18), .inl (g 0, 40, .inl (fun _ => (-1)))), ((a 20), .inl (g 0, 12, .inl (fun _ => 0)))] s.heap.size) [((a 1), f_net a), ((a 12), .inl (g 2, 40, .inl (fun _ => 0))), ((a 19), .inl (g 1, 40, .inr (.inl (fun _ => 0)))), ((a 18), .inl (g 0, 40, .inl (fun _ => (-1)))), ((a 20), .inl (g 0, 12, .inl (fun _ => 0)))] := hD0.self
  have hP : va_P D vwCl [((a 1), f_net a), ((a 12), .inl (g 2, 40, .inl (fun _ => 0))), ((a 19), .inl (g 1, 40, .inr (.inl (fun _ => 0)))), ((a 18), .inl (g 0, 40, .inl (fun _ => (-1)))), ((a 20), .inl (g 0, 12, .inl (fun _ => 0)))] s.heap := hP0
  have hl : lv_has ls 3 [(0, .ref (a 1)), (1, .int 1)] := hl
  refine lv_aload_n hx hb dX6_addSource_0 rfl (lv_at hl 0 rfl) ?_
  refine va_get (D := D) (ci := 12) (v := .int 0) (C := RX6) (T := TX6) (N := 18) hx hb ht in_X6 hown hK.1 hP 0 rfl rfl 12 (by decide) (ht _ w_124) (fun _ h9 => h9) rfl dX6_addSource_1 ?_
  refine lv_istore_n (lv' := [(2, .int 0), (0, .ref (a 1)), (1, .int 1)]) hx hb dX6_addSource_4 rfl hl (by decide) rfl (fun ls hl => ?_)
  refine lv_aload_n hx hb dX6_addSource_5 rfl (lv_at hl 1 rfl) ?_
  refine va_get (D := D) (ci := 12) (v := .ref (a 12)) (C := RX6) (T := TX6) (N := 18) hx hb ht in_X6 hown hK.1 hP 0 rfl rfl 0 (by decide) (ht _ w_125) (fun _ h9 => h9) rfl dX6_addSource_6 ?_
  refine lv_iload_n hx hb dX6_addSource_9 rfl (lv_at hl 0 rfl) ?_
  refine lv_iload_n hx hb dX6_addSource_10 rfl (lv_at hl 2 rfl) ?_
  refine lv_if_eq (tgt := 19) hx hb dX6_addSource_11 (by decide) (fun c_1 => ?_) (fun c_1 => ?_)
  · exact absurd c_1 (by decide)
  · refine lv_bipush (v := 102) hx hb dX6_addSource_14 (by decide) ?_
    refine lv_goto (tgt := 21) hx hb dX6_addSource_16 (by decide) ?_
    refine va_cast hx hb hK.1 hP hD hS 1 2 rfl rfl (by unfold vp_in; decide) dX6_addSource_21 (fun H locs hP hD hS => ?_)
    have hP : va_P D vwCl [((a 1), f_net a), ((a 12), .inl (g 2, 40, .inl (upd (fun _ => 0) (0 : Int32).toNatClampNeg (vp_nar .char 102)))), ((a 19), .inl (g 1, 40, .inr (.inl (fun _ => 0)))), ((a 18), .inl (g 0, 40, .inl (fun _ => (-1)))), ((a 20), .inl (g 0, 12, .inl (fun _ => 0)))] H := hP
    have hD : va_D (va_A [((a 1), f_net a), ((a 12), .inl (g 2, 40, .inl (fun _ => 0))), ((a 19), .inl (g 1, 40, .inr (.inl (fun _ => 0)))), ((a 18), .inl (g 0, 40, .inl (fun _ => (-1)))), ((a 20), .inl (g 0, 12, .inl (fun _ => 0)))] s.heap.size) [((a 1), f_net a), ((a 12), .inl (g 2, 40, .inl (upd (fun _ => 0) (0 : Int32).toNatClampNeg (vp_nar .char 102)))), ((a 19), .inl (g 1, 40, .inr (.inl (fun _ => 0)))), ((a 18), .inl (g 0, 40, .inl (fun _ => (-1)))), ((a 20), .inl (g 0, 12, .inl (fun _ => 0)))] := hD
    refine lv_aload_n hx hb dX6_addSource_22 rfl (lv_at hl 1 rfl) ?_
    refine va_get (D := D) (ci := 12) (v := .ref (a 19)) (C := RX6) (T := TX6) (N := 18) hx hb ht in_X6 hown hK.1 hP 0 rfl rfl 7 (by decide) (ht _ w_126) (fun _ h9 => h9) rfl dX6_addSource_23 ?_
    refine lv_iload_n hx hb dX6_addSource_26 rfl (lv_at hl 0 rfl) ?_
    refine lv_lconst (v := 1) hx hb dX6_addSource_27 (by decide) ?_
    refine lv_iload_n hx hb dX6_addSource_28 rfl (lv_at hl 0 rfl) ?_
    refine lv_lshl (v := 1) hx hb dX6_addSource_29 (by decide) ?_
    refine va_last hx hb hK.1 hP hD hS 2 1 rfl rfl (by unfold vp_in; decide) dX6_addSource_30 (fun H locs hP hD hS => ?_)
    have hP : va_P D vwCl [((a 1), f_net a), ((a 12), .inl (g 2, 40, .inl (upd (fun _ => 0) (0 : Int32).toNatClampNeg (vp_nar .char 102)))), ((a 19), .inl (g 1, 40, .inr (.inl (vp_updL (fun _ => 0) (0 : Int32).toNatClampNeg 1)))), ((a 18), .inl (g 0, 40, .inl (fun _ => (-1)))), ((a 20), .inl (g 0, 12, .inl (fun _ => 0)))] H := hP
    have hD : va_D (va_A [((a 1), f_net a), ((a 12), .inl (g 2, 40, .inl (fun _ => 0))), ((a 19), .inl (g 1, 40, .inr (.inl (fun _ => 0)))), ((a 18), .inl (g 0, 40, .inl (fun _ => (-1)))), ((a 20), .inl (g 0, 12, .inl (fun _ => 0)))] s.heap.size) [((a 1), f_net a), ((a 12), .inl (g 2, 40, .inl (upd (fun _ => 0) (0 : Int32).toNatClampNeg (vp_nar .char 102)))), ((a 19), .inl (g 1, 40, .inr (.inl (vp_updL (fun _ => 0) (0 : Int32).toNatClampNeg 1)))), ((a 18), .inl (g 0, 40, .inl (fun _ => (-1)))), ((a 20), .inl (g 0, 12, .inl (fun _ => 0)))] := hD
    refine lv_aload_n hx hb dX6_addSource_31 rfl (lv_at hl 1 rfl) ?_
    refine va_get (D := D) (ci := 12) (v := .ref (a 18)) (C := RX6) (T := TX6) (N := 18) hx hb ht in_X6 hown hK.1 hP 0 rfl rfl 6 (by decide) (ht _ w_127) (fun _ h9 => h9) rfl dX6_addSource_32 ?_
    refine lv_iload_n hx hb dX6_addSource_35 rfl (lv_at hl 0 rfl) ?_
    refine lv_aload_n hx hb dX6_addSource_36 rfl (lv_at hl 1 rfl) ?_
    refine va_get (D := D) (ci := 12) (v := .int 0) (C := RX6) (T := TX6) (N := 18) hx hb ht in_X6 hown hK.1 hP 0 rfl rfl 13 (by decide) (ht _ w_128) (fun _ h9 => h9) rfl dX6_addSource_37 ?_
    refine va_iast hx hb hK.1 hP hD hS 3 0 rfl rfl (by unfold vp_in; decide) dX6_addSource_40 (fun H locs hP hD hS => ?_)
    have hP : va_P D vwCl [((a 1), f_net a), ((a 12), .inl (g 2, 40, .inl (upd (fun _ => 0) (0 : Int32).toNatClampNeg (vp_nar .char 102)))), ((a 19), .inl (g 1, 40, .inr (.inl (vp_updL (fun _ => 0) (0 : Int32).toNatClampNeg 1)))), ((a 18), .inl (g 0, 40, .inl (upd (fun _ => (-1)) (0 : Int32).toNatClampNeg 0))), ((a 20), .inl (g 0, 12, .inl (fun _ => 0)))] H := hP
    have hD : va_D (va_A [((a 1), f_net a), ((a 12), .inl (g 2, 40, .inl (fun _ => 0))), ((a 19), .inl (g 1, 40, .inr (.inl (fun _ => 0)))), ((a 18), .inl (g 0, 40, .inl (fun _ => (-1)))), ((a 20), .inl (g 0, 12, .inl (fun _ => 0)))] s.heap.size) [((a 1), f_net a), ((a 12), .inl (g 2, 40, .inl (upd (fun _ => 0) (0 : Int32).toNatClampNeg (vp_nar .char 102)))), ((a 19), .inl (g 1, 40, .inr (.inl (vp_updL (fun _ => 0) (0 : Int32).toNatClampNeg 1)))), ((a 18), .inl (g 0, 40, .inl (upd (fun _ => (-1)) (0 : Int32).toNatClampNeg 0))), ((a 20), .inl (g 0, 12, .inl (fun _ => 0)))] := hD
    refine lv_aload_n hx hb dX6_addSource_41 rfl (lv_at hl 1 rfl) ?_
    refine lv_dup hx hb dX6_addSource_42 rfl ?_
    refine va_get (D := D) (ci := 12) (v := .int 0) (C := RX6) (T := TX6) (N := 18) hx hb ht in_X6 hown hK.1 hP 0 rfl rfl 13 (by decide) (ht _ w_128) (fun _ h9 => h9) rfl dX6_addSource_43 ?_
    refine lv_iconst (v := 1) hx hb dX6_addSource_46 (by decide) ?_
    refine lv_iadd hx hb dX6_addSource_47 ?_
    refine r_topi (v := 1) (by decide) ?_
    refine va_put (D := D) (ci := 12) (v := .int 1) (ty := .int) (C := RX6) (T := TX6) (N := 18) hx hb ht in_X6 tyX6 tyX6_ok nmX6 hown hK.1 hP hD hS 0 rfl rfl 13 (by decide) (ht _ w_128) (fun _ h9 => h9) rfl (by decide +kernel) rfl rfl (Nat.le_of_ble_eq_true rfl) dX6_addSource_48 (fun H locs hP hD hS => ?_)
    have hP : va_P D vwCl [((a 1), .inr (12, [.ref (a 12), .ref (a 13), .ref (a 14), .ref (a 15), .ref (a 16), .ref (a 17), .ref (a 18), .ref (a 19), .ref (a 20), .ref (a 21), .ref (a 22), .ref (a 23), .int 0, .int 1, .int 0, .int 0, .int 0, .int 0])), ((a 12), .inl (g 2, 40, .inl (upd (fun _ => 0) (0 : Int32).toNatClampNeg (vp_nar .char 102)))), ((a 19), .inl (g 1, 40, .inr (.inl (vp_updL (fun _ => 0) (0 : Int32).toNatClampNeg 1)))), ((a 18), .inl (g 0, 40, .inl (upd (fun _ => (-1)) (0 : Int32).toNatClampNeg 0))), ((a 20), .inl (g 0, 12, .inl (fun _ => 0)))] H := hP
    have hD : va_D (va_A [((a 1), f_net a), ((a 12), .inl (g 2, 40, .inl (fun _ => 0))), ((a 19), .inl (g 1, 40, .inr (.inl (fun _ => 0)))), ((a 18), .inl (g 0, 40, .inl (fun _ => (-1)))), ((a 20), .inl (g 0, 12, .inl (fun _ => 0)))] s.heap.size) [((a 1), .inr (12, [.ref (a 12), .ref (a 13), .ref (a 14), .ref (a 15), .ref (a 16), .ref (a 17), .ref (a 18), .ref (a 19), .ref (a 20), .ref (a 21), .ref (a 22), .ref (a 23), .int 0, .int 1, .int 0, .int 0, .int 0, .int 0])), ((a 12), .inl (g 2, 40, .inl (upd (fun _ => 0) (0 : Int32).toNatClampNeg (vp_nar .char 102)))), ((a 19), .inl (g 1, 40, .inr (.inl (vp_updL (fun _ => 0) (0 : Int32).toNatClampNeg 1)))), ((a 18), .inl (g 0, 40, .inl (upd (fun _ => (-1)) (0 : Int32).toNatClampNeg 0))), ((a 20), .inl (g 0, 12, .inl (fun _ => 0)))] := hD
    refine lv_iload_n hx hb dX6_addSource_51 rfl (lv_at hl 2 rfl) ?_
    refine lv_if_eq (tgt := 75) hx hb dX6_addSource_52 (by decide) (fun c_2 => ?_) (fun c_2 => ?_)
    · exact absurd c_2 (by decide)
    · refine lv_aload_n hx hb dX6_addSource_55 rfl (lv_at hl 1 rfl) ?_
      refine va_get (D := D) (ci := 12) (v := .ref (a 20)) (C := RX6) (T := TX6) (N := 18) hx hb ht in_X6 hown hK.1 hP 0 rfl rfl 8 (by decide) (ht _ w_129) (fun _ h9 => h9) rfl dX6_addSource_56 ?_
      refine lv_aload_n hx hb dX6_addSource_59 rfl (lv_at hl 1 rfl) ?_
      refine va_get (D := D) (ci := 12) (v := .int 0) (C := RX6) (T := TX6) (N := 18) hx hb ht in_X6 hown hK.1 hP 0 rfl rfl 14 (by decide) (ht _ w_130) (fun _ h9 => h9) rfl dX6_addSource_60 ?_
      refine lv_iload_n hx hb dX6_addSource_63 rfl (lv_at hl 0 rfl) ?_
      refine va_iast hx hb hK.1 hP hD hS 4 0 rfl rfl (by unfold vp_in; decide) dX6_addSource_64 (fun H locs hP hD hS => ?_)
      have hP : va_P D vwCl [((a 1), .inr (12, [.ref (a 12), .ref (a 13), .ref (a 14), .ref (a 15), .ref (a 16), .ref (a 17), .ref (a 18), .ref (a 19), .ref (a 20), .ref (a 21), .ref (a 22), .ref (a 23), .int 0, .int 1, .int 0, .int 0, .int 0, .int 0])), ((a 12), .inl (g 2, 40, .inl (upd (fun _ => 0) (0 : Int32).toNatClampNeg (vp_nar .char 102)))), ((a 19), .inl (g 1, 40, .inr (.inl (vp_updL (fun _ => 0) (0 : Int32).toNatClampNeg 1)))), ((a 18), .inl (g 0, 40, .inl (upd (fun _ => (-1)) (0 : Int32).toNatClampNeg 0))), ((a 20), .inl (g 0, 12, .inl (upd (fun _ => 0) (0 : Int32).toNatClampNeg 0)))] H := hP
      have hD : va_D (va_A [((a 1), f_net a), ((a 12), .inl (g 2, 40, .inl (fun _ => 0))), ((a 19), .inl (g 1, 40, .inr (.inl (fun _ => 0)))), ((a 18), .inl (g 0, 40, .inl (fun _ => (-1)))), ((a 20), .inl (g 0, 12, .inl (fun _ => 0)))] s.heap.size) [((a 1), .inr (12, [.ref (a 12), .ref (a 13), .ref (a 14), .ref (a 15), .ref (a 16), .ref (a 17), .ref (a 18), .ref (a 19), .ref (a 20), .ref (a 21), .ref (a 22), .ref (a 23), .int 0, .int 1, .int 0, .int 0, .int 0, .int 0])), ((a 12), .inl (g 2, 40, .inl (upd (fun _ => 0) (0 : Int32).toNatClampNeg (vp_nar .char 102)))), ((a 19), .inl (g 1, 40, .inr (.inl (vp_updL (fun _ => 0) (0 : Int32).toNatClampNeg 1)))), ((a 18), .inl (g 0, 40, .inl (upd (fun _ => (-1)) (0 : Int32).toNatClampNeg 0))), ((a 20), .inl (g 0, 12, .inl (upd (fun _ => 0) (0 : Int32).toNatClampNeg 0)))] := hD
      refine lv_aload_n hx hb dX6_addSource_65 rfl (lv_at hl 1 rfl) ?_
      refine lv_dup hx hb dX6_addSource_66 rfl ?_
      refine va_get (D := D) (ci := 12) (v := .int 0) (C := RX6) (T := TX6) (N := 18) hx hb ht in_X6 hown hK.1 hP 0 rfl rfl 14 (by decide) (ht _ w_130) (fun _ h9 => h9) rfl dX6_addSource_67 ?_
      refine lv_iconst (v := 1) hx hb dX6_addSource_70 (by decide) ?_
      refine lv_iadd hx hb dX6_addSource_71 ?_
      refine r_topi (v := 1) (by decide) ?_
      refine va_put (D := D) (ci := 12) (v := .int 1) (ty := .int) (C := RX6) (T := TX6) (N := 18) hx hb ht in_X6 tyX6 tyX6_ok nmX6 hown hK.1 hP hD hS 0 rfl rfl 14 (by decide) (ht _ w_130) (fun _ h9 => h9) rfl (by decide +kernel) rfl rfl (Nat.le_of_ble_eq_true rfl) dX6_addSource_72 (fun H locs hP hD hS => ?_)
      have hP : va_P D vwCl [((a 1), .inr (12, [.ref (a 12), .ref (a 13), .ref (a 14), .ref (a 15), .ref (a 16), .ref (a 17), .ref (a 18), .ref (a 19), .ref (a 20), .ref (a 21), .ref (a 22), .ref (a 23), .int 0, .int 1, .int 1, .int 0, .int 0, .int 0])), ((a 12), .inl (g 2, 40, .inl (upd (fun _ => 0) (0 : Int32).toNatClampNeg (vp_nar .char 102)))), ((a 19), .inl (g 1, 40, .inr (.inl (vp_updL (fun _ => 0) (0 : Int32).toNatClampNeg 1)))), ((a 18), .inl (g 0, 40, .inl (upd (fun _ => (-1)) (0 : Int32).toNatClampNeg 0))), ((a 20), .inl (g 0, 12, .inl (upd (fun _ => 0) (0 : Int32).toNatClampNeg 0)))] H := hP
      have hD : va_D (va_A [((a 1), f_net a), ((a 12), .inl (g 2, 40, .inl (fun _ => 0))), ((a 19), .inl (g 1, 40, .inr (.inl (fun _ => 0)))), ((a 18), .inl (g 0, 40, .inl (fun _ => (-1)))), ((a 20), .inl (g 0, 12, .inl (fun _ => 0)))] s.heap.size) [((a 1), .inr (12, [.ref (a 12), .ref (a 13), .ref (a 14), .ref (a 15), .ref (a 16), .ref (a 17), .ref (a 18), .ref (a 19), .ref (a 20), .ref (a 21), .ref (a 22), .ref (a 23), .int 0, .int 1, .int 1, .int 0, .int 0, .int 0])), ((a 12), .inl (g 2, 40, .inl (upd (fun _ => 0) (0 : Int32).toNatClampNeg (vp_nar .char 102)))), ((a 19), .inl (g 1, 40, .inr (.inl (vp_updL (fun _ => 0) (0 : Int32).toNatClampNeg 1)))), ((a 18), .inl (g 0, 40, .inl (upd (fun _ => (-1)) (0 : Int32).toNatClampNeg 0))), ((a 20), .inl (g 0, 12, .inl (upd (fun _ => 0) (0 : Int32).toNatClampNeg 0)))] := hD
      refine lv_aload_n hx hb dX6_addSource_75 rfl (lv_at hl 1 rfl) ?_
      refine lv_dup hx hb dX6_addSource_76 rfl ?_
      refine va_get (D := D) (ci := 12) (v := .int 0) (C := RX6) (T := TX6) (N := 18) hx hb ht in_X6 hown hK.1 hP 0 rfl rfl 12 (by decide) (ht _ w_124) (fun _ h9 => h9) rfl dX6_addSource_77 ?_
      refine lv_iconst (v := 1) hx hb dX6_addSource_80 (by decide) ?_
      refine lv_iadd hx hb dX6_addSource_81 ?_
      refine r_topi (v := 1) (by decide) ?_
      refine va_put (D := D) (ci := 12) (v := .int 1) (ty := .int) (C := RX6) (T := TX6) (N := 18) hx hb ht in_X6 tyX6 tyX6_ok nmX6 hown hK.1 hP hD hS 0 rfl rfl 12 (by decide) (ht _ w_124) (fun _ h9 => h9) rfl (by decide +kernel) rfl rfl (Nat.le_of_ble_eq_true rfl) dX6_addSource_82 (fun H locs hP hD hS => ?_)
      have hP : va_P D vwCl [((a 1), .inr (12, [.ref (a 12), .ref (a 13), .ref (a 14), .ref (a 15), .ref (a 16), .ref (a 17), .ref (a 18), .ref (a 19), .ref (a 20), .ref (a 21), .ref (a 22), .ref (a 23), .int 1, .int 1, .int 1, .int 0, .int 0, .int 0])), ((a 12), .inl (g 2, 40, .inl (upd (fun _ => 0) (0 : Int32).toNatClampNeg (vp_nar .char 102)))), ((a 19), .inl (g 1, 40, .inr (.inl (vp_updL (fun _ => 0) (0 : Int32).toNatClampNeg 1)))), ((a 18), .inl (g 0, 40, .inl (upd (fun _ => (-1)) (0 : Int32).toNatClampNeg 0))), ((a 20), .inl (g 0, 12, .inl (upd (fun _ => 0) (0 : Int32).toNatClampNeg 0)))] H := hP
      have hD : va_D (va_A [((a 1), f_net a), ((a 12), .inl (g 2, 40, .inl (fun _ => 0))), ((a 19), .inl (g 1, 40, .inr (.inl (fun _ => 0)))), ((a 18), .inl (g 0, 40, .inl (fun _ => (-1)))), ((a 20), .inl (g 0, 12, .inl (fun _ => 0)))] s.heap.size) [((a 1), .inr (12, [.ref (a 12), .ref (a 13), .ref (a 14), .ref (a 15), .ref (a 16), .ref (a 17), .ref (a 18), .ref (a 19), .ref (a 20), .ref (a 21), .ref (a 22), .ref (a 23), .int 1, .int 1, .int 1, .int 0, .int 0, .int 0])), ((a 12), .inl (g 2, 40, .inl (upd (fun _ => 0) (0 : Int32).toNatClampNeg (vp_nar .char 102)))), ((a 19), .inl (g 1, 40, .inr (.inl (vp_updL (fun _ => 0) (0 : Int32).toNatClampNeg 1)))), ((a 18), .inl (g 0, 40, .inl (upd (fun _ => (-1)) (0 : Int32).toNatClampNeg 0))), ((a 20), .inl (g 0, 12, .inl (upd (fun _ => 0) (0 : Int32).toNatClampNeg 0)))] := hD
      refine lv_iload_n hx hb dX6_addSource_85 rfl (lv_at hl 0 rfl) ?_
      have hP9 := hP.sub (ws' := [((a 1), .inr (12, [.ref (a 12), .ref (a 13), .ref (a 14), .ref (a 15), .ref (a 16), .ref (a 17), .ref (a 18), .ref (a 19), .ref (a 20), .ref (a 21), .ref (a 22), .ref (a 23), .int 1, .int 1, .int 1, .int 0, .int 0, .int 0])), ((a 12), .inl (g 2, 40, .inl (upd (fun _ => 0) (0 : Int32).toNatClampNeg (vp_nar .char 102)))), ((a 19), .inl (g 1, 40, .inr (.inl (vp_updL (fun _ => 0) (0 : Int32).toNatClampNeg 1)))), ((a 18), .inl (g 0, 40, .inl (upd (fun _ => (-1)) (0 : Int32).toNatClampNeg 0))), ((a 20), .inl (g 0, 12, .inl (upd (fun _ => 0) (0 : Int32).toNatClampNeg 0)))]) [0, 1, 2, 3, 4] rfl
      have hD9 := hD.sub (ws' := [((a 1), .inr (12, [.ref (a 12), .ref (a 13), .ref (a 14), .ref (a 15), .ref (a 16), .ref (a 17), .ref (a 18), .ref (a 19), .ref (a 20), .ref (a 21), .ref (a 22), .ref (a 23), .int 1, .int 1, .int 1, .int 0, .int 0, .int 0])), ((a 12), .inl (g 2, 40, .inl (upd (fun _ => 0) (0 : Int32).toNatClampNeg (vp_nar .char 102)))), ((a 19), .inl (g 1, 40, .inr (.inl (vp_updL (fun _ => 0) (0 : Int32).toNatClampNeg 1)))), ((a 18), .inl (g 0, 40, .inl (upd (fun _ => (-1)) (0 : Int32).toNatClampNeg 0))), ((a 20), .inl (g 0, 12, .inl (upd (fun _ => 0) (0 : Int32).toNatClampNeg 0)))]) [0, 1, 2, 3, 4] (by decide) rfl
      refine W.widen (k := 0) (n := 0) (Nat.le_of_ble_eq_true rfl) (Nat.le_of_ble_eq_true rfl) ?_
      exact W.iret (v := 0) hx hb hr (fun t ht9 hW9 => ⟨⟨0, (), rfl, ⟨rfl, trivial⟩, ⟨(by rw [ht9]; exact hP9), hD9⟩⟩, hS.F ht9⟩) hS.2.2 dX6_addSource_86 hlocks
set_option maxHeartbeats 4000000 in
set_option maxRecDepth 100000 in
theorem k_X11_addSource (l : Launch) (D : va_G) (g : Nat → ClassId) (z0 sz : Nat) (a : Nat → Nat) : Met l yX11_addSource (.code yX11_addSource cX11_addSource 2 (some .int) :: TG) (rmk 1 0 0 22) (va_Pc [.ref (a 0), .int 1] (PP D g z0 sz [((a 0), f_x a), ((a 1), f_net a), ((a 12), .inl (g 2, 40, .inl (fun _ => 0))), ((a 19), .inl (g 1, 40, .inr (.inl (fun _ => 0)))), ((a 18), .inl (g 0, 40, .inl (fun _ => (-1)))), ((a 20), .inl (g 0, 12, .inl (fun _ => 0)))])) (va_Qi (fun (r : Int32) (u : Unit) => (r = 0) ∧ True) (fun (u : Unit) (t : State) => va_P D vwCl [((a 0), f_x a), ((a 1), .inr (12, [.ref (a 12), .ref (a 13), .ref (a 14), .ref (a 15), .ref (a 16), .ref (a 17), .ref (a 18), .ref (a 19), .ref (a 20), .ref (a 21), .ref (a 22), .ref (a 23), .int 1, .int 1, .int 1, .int 0, .int 0, .int 0])), ((a 12), .inl (g 2, 40, .inl (upd (fun _ => 0) (0 : Int32).toNatClampNeg (vp_nar .char 102)))), ((a 19), .inl (g 1, 40, .inr (.inl (vp_updL (fun _ => 0) (0 : Int32).toNatClampNeg 1)))), ((a 18), .inl (g 0, 40, .inl (upd (fun _ => (-1)) (0 : Int32).toNatClampNeg 0))), ((a 20), .inl (g 0, 12, .inl (upd (fun _ => 0) (0 : Int32).toNatClampNeg 0)))] t.heap ∧ va_D (va_A [((a 0), f_x a), ((a 1), f_net a), ((a 12), .inl (g 2, 40, .inl (fun _ => 0))), ((a 19), .inl (g 1, 40, .inr (.inl (fun _ => 0)))), ((a 18), .inl (g 0, 40, .inl (fun _ => (-1)))), ((a 20), .inl (g 0, 12, .inl (fun _ => 0)))] sz) [((a 0), f_x a), ((a 1), .inr (12, [.ref (a 12), .ref (a 13), .ref (a 14), .ref (a 15), .ref (a 16), .ref (a 17), .ref (a 18), .ref (a 19), .ref (a 20), .ref (a 21), .ref (a 22), .ref (a 23), .int 1, .int 1, .int 1, .int 0, .int 0, .int 0])), ((a 12), .inl (g 2, 40, .inl (upd (fun _ => 0) (0 : Int32).toNatClampNeg (vp_nar .char 102)))), ((a 19), .inl (g 1, 40, .inr (.inl (vp_updL (fun _ => 0) (0 : Int32).toNatClampNeg 1)))), ((a 18), .inl (g 0, 40, .inl (upd (fun _ => (-1)) (0 : Int32).toNatClampNeg 0))), ((a 20), .inl (g 0, 12, .inl (upd (fun _ => 0) (0 : Int32).toNatClampNeg 0)))]) (va_A [((a 0), f_x a), ((a 1), f_net a), ((a 12), .inl (g 2, 40, .inl (fun _ => 0))), ((a 19), .inl (g 1, 40, .inr (.inl (fun _ => 0)))), ((a 18), .inl (g 0, 40, .inl (fun _ => (-1)))), ((a 20), .inl (g 0, 12, .inl (fun _ => 0)))] sz)) 0 0 (va_A [((a 0), f_x a), ((a 1), f_net a), ((a 12), .inl (g 2, 40, .inl (fun _ => 0))), ((a 19), .inl (g 1, 40, .inr (.inl (fun _ => 0)))), ((a 18), .inl (g 0, 40, .inl (fun _ => (-1)))), ((a 20), .inl (g 0, 12, .inl (fun _ => 0)))] sz) := by
  refine met0 (cc := cX11_addSource) (n := 2) (by decide) (Nat.le_of_ble_eq_true rfl) ?_
  intro p e s m args below meth c hx hb hr hml hown ht hlocks hnm hP0 hD0 hK hZ hsz hz ls hl
  subst hsz
  have hA : ∀ q : Nat, s.heap.size ≤ q → va_A [((a 0), f_x a), ((a 1), f_net a), ((a 12), .inl (g 2, 40, .inl (fun _ => 0))), ((a 19), .inl (g 1, 40, .inr (.inl (fun _ => 0)))), ((a 18), .inl (g 0, 40, .inl (fun _ => (-1)))), ((a 20), .inl (g 0, 12, .inl (fun _ => 0)))] s.heap.size q := Anw
  have hAz : ∀ q, va_A [((a 0), f_x a), ((a 1), f_net a), ((a 12), .inl (g 2, 40, .inl (fun _ => 0))), ((a 19), .inl (g 1, 40, .inr (.inl (fun _ => 0)))), ((a 18), .inl (g 0, 40, .inl (fun _ => (-1)))), ((a 20), .inl (g 0, 12, .inl (fun _ => 0)))] s.heap.size q → z0 ≤ q := Awz hz hD0
  have hS : va_S (va_A [((a 0), f_x a), ((a 1), f_net a), ((a 12), .inl (g 2, 40, .inl (fun _ => 0))), ((a 19), .inl (g 1, 40, .inr (.inl (fun _ => 0)))), ((a 18), .inl (g 0, 40, .inl (fun _ => (-1)))), ((a 20), .inl (g 0, 12, .inl (fun _ => 0)))] s.heap.size) s.heap s.heap [] := va_S.rf
  have hD : va_D (va_A [((a 0), f_x a), ((a 1), f_net a), ((a 12), .inl (g 2, 40, .inl (fun _ => 0))), ((a 19), .inl (g 1, 40, .inr (.inl (fun _ => 0)))), ((a 18), .inl (g 0, 40, .inl (fun _ => (-1)))), ((a 20), .inl (g 0, 12, .inl (fun _ => 0)))] s.heap.size) [((a 0), f_x a), ((a 1), f_net a), ((a 12), .inl (g 2, 40, .inl (fun _ => 0))), ((a 19), .inl (g 1, 40, .inr (.inl (fun _ => 0)))), ((a 18), .inl (g 0, 40, .inl (fun _ => (-1)))), ((a 20), .inl (g 0, 12, .inl (fun _ => 0)))] := hD0.self
  have hP : va_P D vwCl [((a 0), f_x a), ((a 1), f_net a), ((a 12), .inl (g 2, 40, .inl (fun _ => 0))), ((a 19), .inl (g 1, 40, .inr (.inl (fun _ => 0)))), ((a 18), .inl (g 0, 40, .inl (fun _ => (-1)))), ((a 20), .inl (g 0, 12, .inl (fun _ => 0)))] s.heap := hP0
  have hl : lv_has ls 2 [(0, .ref (a 0)), (1, .int 1)] := hl
  refine lv_aload_n hx hb dX11_addSource_0 rfl (lv_at hl 0 rfl) ?_
  have hPc : va_P D vwCl [((a 0), f_x a), ((a 1), f_net a)] _ := hP.sub (ws' := [((a 0), f_x a), ((a 1), f_net a)]) [0, 1] rfl
  have hDc : va_D (fun q => z0 ≤ q) [((a 0), f_x a), ((a 1), f_net a)] := (hD.to hAz).pick (ws' := [((a 0), f_x a), ((a 1), f_net a)]) [0, 1] (by decide) rfl
  have hFc := AnA (ws := [((a 0), f_x a), ((a 1), f_net a), ((a 12), .inl (g 2, 40, .inl (fun _ => 0))), ((a 19), .inl (g 1, 40, .inr (.inl (fun _ => 0)))), ((a 18), .inl (g 0, 40, .inl (fun _ => (-1)))), ((a 20), .inl (g 0, 12, .inl (fun _ => 0)))]) hS.1
  refine va_callv (va_runV (As := []) (rest := []) ⟨hx, hb, hml, hown, ht⟩ (k_X11_needOpenNet l D g z0 _ a) (cwV 0 ht (gV w_119 w_121 w_122 w_31 w_120) rfl rfl rfl (by decide +kernel) (le2 rfl rfl)) ⟨PP.blind, va_recv hK.1 hP (ci := 17) (q0 := 0) rfl rfl, PP.mk' hK hZ hz hAz hS hPc hDc⟩ rfl rfl hl.1 rfl (lv_room (Nat.le_of_ble_eq_true rfl)) dX11_addSource_1 (le2 rfl rfl)) hS (fun q _ h => hFc q h) hFc (fun u t H locs ht1 hvm hw hB hz1 hk1 hS => ?_)
  have hP := ro1 hP hk1
  refine lv_aload_n hx hb dX11_addSource_4 rfl (lv_at hl 0 rfl) ?_
  refine va_get (D := D) (ci := 17) (v := .ref (a 1)) (C := RX11) (T := TX11) (N := 11) hx hb ht in_X11 hown hK.1 hP 0 rfl rfl 0 (by decide) (ht _ w_66) (fun _ h9 => h9) rfl dX11_addSource_5 ?_
  refine va_get (D := D) (ci := 12) (v := .int 0) (C := RX6) (T := TX6) (N := 18) hx hb ht in_X6 hown hK.1 hP 1 rfl rfl 12 (by decide) (ht _ w_79) (fun _ h9 => h9) rfl dX11_addSource_8 ?_
  refine lv_bipush (v := 40) hx hb dX11_addSource_11 (by decide) ?_
  refine lv_icmp_ge (tgt := 28) hx hb dX11_addSource_13 (by decide) (fun c_1 => ?_) (fun c_1 => ?_)
  · exact absurd c_1 (by decide)
  · refine lv_aload_n hx hb dX11_addSource_16 rfl (lv_at hl 0 rfl) ?_
    refine va_get (D := D) (ci := 17) (v := .ref (a 1)) (C := RX11) (T := TX11) (N := 11) hx hb ht in_X11 hown hK.1 hP 0 rfl rfl 0 (by decide) (ht _ w_66) (fun _ h9 => h9) rfl dX11_addSource_17 ?_
    refine va_get (D := D) (ci := 12) (v := .int 0) (C := RX6) (T := TX6) (N := 18) hx hb ht in_X6 hown hK.1 hP 1 rfl rfl 13 (by decide) (ht _ w_123) (fun _ h9 => h9) rfl dX11_addSource_20 ?_
    refine lv_bipush (v := 12) hx hb dX11_addSource_23 (by decide) ?_
    refine lv_icmp_lt (tgt := 36) hx hb dX11_addSource_25 (by decide) (fun c_2 => ?_) (fun c_2 => ?_)
    · refine lv_aload_n hx hb dX11_addSource_36 rfl (lv_at hl 0 rfl) ?_
      refine va_get (D := D) (ci := 17) (v := .ref (a 1)) (C := RX11) (T := TX11) (N := 11) hx hb ht in_X11 hown hK.1 hP 0 rfl rfl 0 (by decide) (ht _ w_66) (fun _ h9 => h9) rfl dX11_addSource_37 ?_
      refine lv_iload_n hx hb dX11_addSource_40 rfl (lv_at hl 1 rfl) ?_
      have hPc : va_P D vwCl [((a 1), f_net a), ((a 12), .inl (g 2, 40, .inl (fun _ => 0))), ((a 19), .inl (g 1, 40, .inr (.inl (fun _ => 0)))), ((a 18), .inl (g 0, 40, .inl (fun _ => (-1)))), ((a 20), .inl (g 0, 12, .inl (fun _ => 0)))] _ := hP.sub (ws' := [((a 1), f_net a), ((a 12), .inl (g 2, 40, .inl (fun _ => 0))), ((a 19), .inl (g 1, 40, .inr (.inl (fun _ => 0)))), ((a 18), .inl (g 0, 40, .inl (fun _ => (-1)))), ((a 20), .inl (g 0, 12, .inl (fun _ => 0)))]) [1, 2, 3, 4, 5] rfl
      have hDc : va_D (fun q => z0 ≤ q) [((a 1), f_net a), ((a 12), .inl (g 2, 40, .inl (fun _ => 0))), ((a 19), .inl (g 1, 40, .inr (.inl (fun _ => 0)))), ((a 18), .inl (g 0, 40, .inl (fun _ => (-1)))), ((a 20), .inl (g 0, 12, .inl (fun _ => 0)))] := (hD.to hAz).pick (ws' := [((a 1), f_net a), ((a 12), .inl (g 2, 40, .inl (fun _ => 0))), ((a 19), .inl (g 1, 40, .inr (.inl (fun _ => 0)))), ((a 18), .inl (g 0, 40, .inl (fun _ => (-1)))), ((a 20), .inl (g 0, 12, .inl (fun _ => 0)))]) [1, 2, 3, 4, 5] (by decide) rfl
      have hFc := va_free (wc := [((a 1), f_net a), ((a 12), .inl (g 2, 40, .inl (fun _ => 0))), ((a 19), .inl (g 1, 40, .inr (.inl (fun _ => 0)))), ((a 18), .inl (g 0, 40, .inl (fun _ => (-1)))), ((a 20), .inl (g 0, 12, .inl (fun _ => 0)))]) hD hS hA [1, 2, 3, 4, 5] rfl
      refine va_calli (va_runV (As := [.int 1]) (rest := []) ⟨hx, hb, hml, hown, ht⟩ (k_X6_addSource l D g z0 _ a) (cwV 1 ht (gV w_131 w_133 w_134 w_135 w_132) rfl rfl rfl (by decide +kernel) (le2 rfl rfl)) ⟨PP.blind, va_recv hK.1 hP (ci := 12) (q0 := 1) rfl rfl, PP.mk' hK hZ hz hAz hS hPc hDc⟩ rfl rfl hl.1 rfl (lv_room (Nat.le_of_ble_eq_true rfl)) dX11_addSource_41 (le2 rfl rfl)) hS (fun q _ h => hFc q h) hFc (fun r u t H locs ht1 hvm hw hB hz1 hk1 hS => ?_)
      obtain ⟨rfl, hw⟩ := hw
      obtain ⟨hP1, hD1⟩ := hB
      rw [ht1] at hP1
      obtain ⟨hP, hD⟩ := va_join (wr := [((a 0), f_x a)]) (w1 := [((a 1), .inr (12, [.ref (a 12), .ref (a 13), .ref (a 14), .ref (a 15), .ref (a 16), .ref (a 17), .ref (a 18), .ref (a 19), .ref (a 20), .ref (a 21), .ref (a 22), .ref (a 23), .int 1, .int 1, .int 1, .int 0, .int 0, .int 0])), ((a 12), .inl (g 2, 40, .inl (upd (fun _ => 0) (0 : Int32).toNatClampNeg (vp_nar .char 102)))), ((a 19), .inl (g 1, 40, .inr (.inl (vp_updL (fun _ => 0) (0 : Int32).toNatClampNeg 1)))), ((a 18), .inl (g 0, 40, .inl (upd (fun _ => (-1)) (0 : Int32).toNatClampNeg 0))), ((a 20), .inl (g 0, 12, .inl (upd (fun _ => 0) (0 : Int32).toNatClampNeg 0)))]) hP hD [1, 2, 3, 4, 5] [0] rfl rfl (by decide) (by decide) hk1 hFc hP1 hD1
      have hP : va_P D vwCl [((a 0), f_x a), ((a 1), .inr (12, [.ref (a 12), .ref (a 13), .ref (a 14), .ref (a 15), .ref (a 16), .ref (a 17), .ref (a 18), .ref (a 19), .ref (a 20), .ref (a 21), .ref (a 22), .ref (a 23), .int 1, .int 1, .int 1, .int 0, .int 0, .int 0])), ((a 12), .inl (g 2, 40, .inl (upd (fun _ => 0) (0 : Int32).toNatClampNeg (vp_nar .char 102)))), ((a 19), .inl (g 1, 40, .inr (.inl (vp_updL (fun _ => 0) (0 : Int32).toNatClampNeg 1)))), ((a 18), .inl (g 0, 40, .inl (upd (fun _ => (-1)) (0 : Int32).toNatClampNeg 0))), ((a 20), .inl (g 0, 12, .inl (upd (fun _ => 0) (0 : Int32).toNatClampNeg 0)))] H := hP
      have hD : va_D (va_A [((a 0), f_x a), ((a 1), f_net a), ((a 12), .inl (g 2, 40, .inl (fun _ => 0))), ((a 19), .inl (g 1, 40, .inr (.inl (fun _ => 0)))), ((a 18), .inl (g 0, 40, .inl (fun _ => (-1)))), ((a 20), .inl (g 0, 12, .inl (fun _ => 0)))] s.heap.size) [((a 0), f_x a), ((a 1), .inr (12, [.ref (a 12), .ref (a 13), .ref (a 14), .ref (a 15), .ref (a 16), .ref (a 17), .ref (a 18), .ref (a 19), .ref (a 20), .ref (a 21), .ref (a 22), .ref (a 23), .int 1, .int 1, .int 1, .int 0, .int 0, .int 0])), ((a 12), .inl (g 2, 40, .inl (upd (fun _ => 0) (0 : Int32).toNatClampNeg (vp_nar .char 102)))), ((a 19), .inl (g 1, 40, .inr (.inl (vp_updL (fun _ => 0) (0 : Int32).toNatClampNeg 1)))), ((a 18), .inl (g 0, 40, .inl (upd (fun _ => (-1)) (0 : Int32).toNatClampNeg 0))), ((a 20), .inl (g 0, 12, .inl (upd (fun _ => 0) (0 : Int32).toNatClampNeg 0)))] := hD
      have hP9 := hP.sub (ws' := [((a 0), f_x a), ((a 1), .inr (12, [.ref (a 12), .ref (a 13), .ref (a 14), .ref (a 15), .ref (a 16), .ref (a 17), .ref (a 18), .ref (a 19), .ref (a 20), .ref (a 21), .ref (a 22), .ref (a 23), .int 1, .int 1, .int 1, .int 0, .int 0, .int 0])), ((a 12), .inl (g 2, 40, .inl (upd (fun _ => 0) (0 : Int32).toNatClampNeg (vp_nar .char 102)))), ((a 19), .inl (g 1, 40, .inr (.inl (vp_updL (fun _ => 0) (0 : Int32).toNatClampNeg 1)))), ((a 18), .inl (g 0, 40, .inl (upd (fun _ => (-1)) (0 : Int32).toNatClampNeg 0))), ((a 20), .inl (g 0, 12, .inl (upd (fun _ => 0) (0 : Int32).toNatClampNeg 0)))]) [0, 1, 2, 3, 4, 5] rfl
      have hD9 := hD.sub (ws' := [((a 0), f_x a), ((a 1), .inr (12, [.ref (a 12), .ref (a 13), .ref (a 14), .ref (a 15), .ref (a 16), .ref (a 17), .ref (a 18), .ref (a 19), .ref (a 20), .ref (a 21), .ref (a 22), .ref (a 23), .int 1, .int 1, .int 1, .int 0, .int 0, .int 0])), ((a 12), .inl (g 2, 40, .inl (upd (fun _ => 0) (0 : Int32).toNatClampNeg (vp_nar .char 102)))), ((a 19), .inl (g 1, 40, .inr (.inl (vp_updL (fun _ => 0) (0 : Int32).toNatClampNeg 1)))), ((a 18), .inl (g 0, 40, .inl (upd (fun _ => (-1)) (0 : Int32).toNatClampNeg 0))), ((a 20), .inl (g 0, 12, .inl (upd (fun _ => 0) (0 : Int32).toNatClampNeg 0)))]) [0, 1, 2, 3, 4, 5] (by decide) rfl
      refine W.widen (k := 0) (n := 0) (Nat.le_of_ble_eq_true rfl) (Nat.le_of_ble_eq_true rfl) ?_
      exact W.iret (v := 0) hx hb hr (fun t ht9 hW9 => ⟨⟨0, (), rfl, ⟨rfl, trivial⟩, ⟨(by rw [ht9]; exact hP9), hD9⟩⟩, hS.F ht9⟩) hS.2.2 dX11_addSource_44 hlocks
    · exact absurd c_2 (by decide)
set_option maxHeartbeats 4000000 in
set_option maxRecDepth 100000 in
theorem k_X11_cell (l : Launch) (D : va_G) (g : Nat → ClassId) (z0 sz : Nat) (a : Nat → Nat) : Met l yX11_cell (.code yX11_cell cX11_cell 1 (some .int) :: TG) (rmk 2 0 0 43) (va_Pc [.ref (a 0)] (PP D g z0 sz [((a 0), f_x a), ((a 1), f_net a), ((a 12), .inl (g 2, 40, .inl (fun _ => 0))), ((a 19), .inl (g 1, 40, .inr (.inl (fun _ => 0)))), ((a 18), .inl (g 0, 40, .inl (fun _ => (-1)))), ((a 20), .inl (g 0, 12, .inl (fun _ => 0)))])) (va_Qi (fun (r : Int32) (u : Unit) => (r = 0) ∧ True) (fun (u : Unit) (t : State) => va_P D vwCl [] t.heap ∧ va_D (va_A [((a 0), f_x a), ((a 1), f_net a), ((a 12), .inl (g 2, 40, .inl (fun _ => 0))), ((a 19), .inl (g 1, 40, .inr (.inl (fun _ => 0)))), ((a 18), .inl (g 0, 40, .inl (fun _ => (-1)))), ((a 20), .inl (g 0, 12, .inl (fun _ => 0)))] sz) []) (va_A [((a 0), f_x a), ((a 1), f_net a), ((a 12), .inl (g 2, 40, .inl (fun _ => 0))), ((a 19), .inl (g 1, 40, .inr (.inl (fun _ => 0)))), ((a 18), .inl (g 0, 40, .inl (fun _ => (-1)))), ((a 20), .inl (g 0, 12, .inl (fun _ => 0)))] sz)) 0 0 (va_A [((a 0), f_x a), ((a 1), f_net a), ((a 12), .inl (g 2, 40, .inl (fun _ => 0))), ((a 19), .inl (g 1, 40, .inr (.inl (fun _ => 0)))), ((a 18), .inl (g 0, 40, .inl (fun _ => (-1)))), ((a 20), .inl (g 0, 12, .inl (fun _ => 0)))] sz) := by
  refine met0 (cc := cX11_cell) (n := 1) (by decide) (Nat.le_of_ble_eq_true rfl) ?_
  intro p e s m args below meth c hx hb hr hml hown ht hlocks hnm hP0 hD0 hK hZ hsz hz ls hl
  subst hsz
  have hA : ∀ q : Nat, s.heap.size ≤ q → va_A [((a 0), f_x a), ((a 1), f_net a), ((a 12), .inl (g 2, 40, .inl (fun _ => 0))), ((a 19), .inl (g 1, 40, .inr (.inl (fun _ => 0)))), ((a 18), .inl (g 0, 40, .inl (fun _ => (-1)))), ((a 20), .inl (g 0, 12, .inl (fun _ => 0)))] s.heap.size q := Anw
  have hAz : ∀ q, va_A [((a 0), f_x a), ((a 1), f_net a), ((a 12), .inl (g 2, 40, .inl (fun _ => 0))), ((a 19), .inl (g 1, 40, .inr (.inl (fun _ => 0)))), ((a 18), .inl (g 0, 40, .inl (fun _ => (-1)))), ((a 20), .inl (g 0, 12, .inl (fun _ => 0)))] s.heap.size q → z0 ≤ q := Awz hz hD0
  have hS : va_S (va_A [((a 0), f_x a), ((a 1), f_net a), ((a 12), .inl (g 2, 40, .inl (fun _ => 0))), ((a 19), .inl (g 1, 40, .inr (.inl (fun _ => 0)))), ((a 18), .inl (g 0, 40, .inl (fun _ => (-1)))), ((a 20), .inl (g 0, 12, .inl (fun _ => 0)))] s.heap.size) s.heap s.heap [] := va_S.rf
  have hD : va_D (va_A [((a 0), f_x a), ((a 1), f_net a), ((a 12), .inl (g 2, 40, .inl (fun _ => 0))), ((a 19), .inl (g 1, 40, .inr (.inl (fun _ => 0)))), ((a 18), .inl (g 0, 40, .inl (fun _ => (-1)))), ((a 20), .inl (g 0, 12, .inl (fun _ => 0)))] s.heap.size) [((a 0), f_x a), ((a 1), f_net a), ((a 12), .inl (g 2, 40, .inl (fun _ => 0))), ((a 19), .inl (g 1, 40, .inr (.inl (fun _ => 0)))), ((a 18), .inl (g 0, 40, .inl (fun _ => (-1)))), ((a 20), .inl (g 0, 12, .inl (fun _ => 0)))] := hD0.self
  have hP : va_P D vwCl [((a 0), f_x a), ((a 1), f_net a), ((a 12), .inl (g 2, 40, .inl (fun _ => 0))), ((a 19), .inl (g 1, 40, .inr (.inl (fun _ => 0)))), ((a 18), .inl (g 0, 40, .inl (fun _ => (-1)))), ((a 20), .inl (g 0, 12, .inl (fun _ => 0)))] s.heap := hP0
  have hl : lv_has ls 1 [(0, .ref (a 0))] := hl
  refine lv_aload_n hx hb dX11_cell_0 rfl (lv_at hl 0 rfl) ?_
  refine lv_iconst (v := 1) hx hb dX11_cell_1 (by decide) ?_
  have hPc : va_P D vwCl [((a 0), f_x a), ((a 1), f_net a), ((a 12), .inl (g 2, 40, .inl (fun _ => 0))), ((a 19), .inl (g 1, 40, .inr (.inl (fun _ => 0)))), ((a 18), .inl (g 0, 40, .inl (fun _ => (-1)))), ((a 20), .inl (g 0, 12, .inl (fun _ => 0)))] _ := hP.sub (ws' := [((a 0), f_x a), ((a 1), f_net a), ((a 12), .inl (g 2, 40, .inl (fun _ => 0))), ((a 19), .inl (g 1, 40, .inr (.inl (fun _ => 0)))), ((a 18), .inl (g 0, 40, .inl (fun _ => (-1)))), ((a 20), .inl (g 0, 12, .inl (fun _ => 0)))]) [0, 1, 2, 3, 4, 5] rfl
  have hDc : va_D (fun q => z0 ≤ q) [((a 0), f_x a), ((a 1), f_net a), ((a 12), .inl (g 2, 40, .inl (fun _ => 0))), ((a 19), .inl (g 1, 40, .inr (.inl (fun _ => 0)))), ((a 18), .inl (g 0, 40, .inl (fun _ => (-1)))), ((a 20), .inl (g 0, 12, .inl (fun _ => 0)))] := (hD.to hAz).pick (ws' := [((a 0), f_x a), ((a 1), f_net a), ((a 12), .inl (g 2, 40, .inl (fun _ => 0))), ((a 19), .inl (g 1, 40, .inr (.inl (fun _ => 0)))), ((a 18), .inl (g 0, 40, .inl (fun _ => (-1)))), ((a 20), .inl (g 0, 12, .inl (fun _ => 0)))]) [0, 1, 2, 3, 4, 5] (by decide) rfl
  have hFc := va_free (wc := [((a 0), f_x a), ((a 1), f_net a), ((a 12), .inl (g 2, 40, .inl (fun _ => 0))), ((a 19), .inl (g 1, 40, .inr (.inl (fun _ => 0)))), ((a 18), .inl (g 0, 40, .inl (fun _ => (-1)))), ((a 20), .inl (g 0, 12, .inl (fun _ => 0)))]) hD hS hA [0, 1, 2, 3, 4, 5] rfl
  refine va_calli (va_runV (As := [.int 1]) (rest := []) ⟨hx, hb, hml, hown, ht⟩ (k_X11_addSource l D g z0 _ a) (cwV 1 ht (gV w_136 w_138 w_139 w_31 w_137) rfl rfl rfl (by decide +kernel) (le2 rfl rfl)) ⟨PP.blind, va_recv hK.1 hP (ci := 17) (q0 := 0) rfl rfl, PP.mk' hK hZ hz hAz hS hPc hDc⟩ rfl rfl hl.1 rfl (lv_room (Nat.le_of_ble_eq_true rfl)) dX11_cell_2 (le2 rfl rfl)) hS (fun q _ h => hFc q h) hFc (fun r u t H locs ht1 hvm hw hB hz1 hk1 hS => ?_)
  obtain ⟨rfl, hw⟩ := hw
  obtain ⟨hP1, hD1⟩ := hB
  rw [ht1] at hP1
  obtain ⟨hP, hD⟩ := va_join (wr := []) (w1 := [((a 0), f_x a), ((a 1), .inr (12, [.ref (a 12), .ref (a 13), .ref (a 14), .ref (a 15), .ref (a 16), .ref (a 17), .ref (a 18), .ref (a 19), .ref (a 20), .ref (a 21), .ref (a 22), .ref (a 23), .int 1, .int 1, .int 1, .int 0, .int 0, .int 0])), ((a 12), .inl (g 2, 40, .inl (upd (fun _ => 0) (0 : Int32).toNatClampNeg (vp_nar .char 102)))), ((a 19), .inl (g 1, 40, .inr (.inl (vp_updL (fun _ => 0) (0 : Int32).toNatClampNeg 1)))), ((a 18), .inl (g 0, 40, .inl (upd (fun _ => (-1)) (0 : Int32).toNatClampNeg 0))), ((a 20), .inl (g 0, 12, .inl (upd (fun _ => 0) (0 : Int32).toNatClampNeg 0)))]) hP hD [0, 1, 2, 3, 4, 5] [] rfl rfl (by decide) (by decide) hk1 hFc hP1 hD1
  have hP : va_P D vwCl [((a 0), f_x a), ((a 1), .inr (12, [.ref (a 12), .ref (a 13), .ref (a 14), .ref (a 15), .ref (a 16), .ref (a 17), .ref (a 18), .ref (a 19), .ref (a 20), .ref (a 21), .ref (a 22), .ref (a 23), .int 1, .int 1, .int 1, .int 0, .int 0, .int 0])), ((a 12), .inl (g 2, 40, .inl (upd (fun _ => 0) (0 : Int32).toNatClampNeg (vp_nar .char 102)))), ((a 19), .inl (g 1, 40, .inr (.inl (vp_updL (fun _ => 0) (0 : Int32).toNatClampNeg 1)))), ((a 18), .inl (g 0, 40, .inl (upd (fun _ => (-1)) (0 : Int32).toNatClampNeg 0))), ((a 20), .inl (g 0, 12, .inl (upd (fun _ => 0) (0 : Int32).toNatClampNeg 0)))] H := hP
  have hD : va_D (va_A [((a 0), f_x a), ((a 1), f_net a), ((a 12), .inl (g 2, 40, .inl (fun _ => 0))), ((a 19), .inl (g 1, 40, .inr (.inl (fun _ => 0)))), ((a 18), .inl (g 0, 40, .inl (fun _ => (-1)))), ((a 20), .inl (g 0, 12, .inl (fun _ => 0)))] s.heap.size) [((a 0), f_x a), ((a 1), .inr (12, [.ref (a 12), .ref (a 13), .ref (a 14), .ref (a 15), .ref (a 16), .ref (a 17), .ref (a 18), .ref (a 19), .ref (a 20), .ref (a 21), .ref (a 22), .ref (a 23), .int 1, .int 1, .int 1, .int 0, .int 0, .int 0])), ((a 12), .inl (g 2, 40, .inl (upd (fun _ => 0) (0 : Int32).toNatClampNeg (vp_nar .char 102)))), ((a 19), .inl (g 1, 40, .inr (.inl (vp_updL (fun _ => 0) (0 : Int32).toNatClampNeg 1)))), ((a 18), .inl (g 0, 40, .inl (upd (fun _ => (-1)) (0 : Int32).toNatClampNeg 0))), ((a 20), .inl (g 0, 12, .inl (upd (fun _ => 0) (0 : Int32).toNatClampNeg 0)))] := hD
  have hP9 := hP.sub (ws' := []) [] rfl
  have hD9 := hD.sub (ws' := []) [] (by decide) rfl
  refine W.widen (k := 0) (n := 0) (Nat.le_of_ble_eq_true rfl) (Nat.le_of_ble_eq_true rfl) ?_
  exact W.iret (v := 0) hx hb hr (fun t ht9 hW9 => ⟨⟨0, (), rfl, ⟨rfl, trivial⟩, ⟨(by rw [ht9]; exact hP9), hD9⟩⟩, hS.F ht9⟩) hS.2.2 dX11_cell_5 hlocks
set_option maxHeartbeats 4000000 in
set_option maxRecDepth 100000 in
theorem k_X11_chance (l : Launch) (hfl : l.stackTraces = false) (D : va_G) (g : Nat → ClassId) (z0 sz : Nat) (a : Nat → Nat) (p0 : Int32) (p1 : Int32) : vx_Met l yX11_chance (.code yX11_chance cX11_chance 6 (some .int) :: TG) (rmk 7 3 18 103) (va_Pc [.ref (a 0), .int p0, .int p1] (PP D g z0 sz [((a 0), f_x a), ((a 1), f_net a)])) (va_Qi (fun (r : Int32) (u : Unit) => False) (fun (_ : Unit) (_ : State) => True) (va_A [] sz)) (vx_X (fun _ : Unit => True) (fun E _ _ => (E = "java/lang/IllegalArgumentException" ∧ ((p0 < 0) ∨ ((¬ p0 < 0) ∧ (¬ p0 ≤ 65535)) ∨ ((¬ p0 < 0) ∧ (p0 ≤ 65535) ∧ (p1 < 1)) ∨ ((¬ p0 < 0) ∧ (p0 ≤ 65535) ∧ (¬ p1 < 1) ∧ (¬ p1 ≤ 200)))) ∨ (E = "java/lang/UnsupportedOperationException" ∧ ((¬ p0 < 0) ∧ (p0 ≤ 65535) ∧ (¬ p1 < 1) ∧ (p1 ≤ 200)))) (va_A [] sz)) 3 18 (va_A [] sz) := by
  refine vxm0 (cc := cX11_chance) (n := 6) (by decide) (Nat.le_of_ble_eq_true rfl) ?_
  intro p e s m args below meth c hx hb hr hml htab hown ht hlocks hnm hP0 hD0 hK hZ hsz hz ls hl
  subst hsz
  have hA : ∀ q : Nat, s.heap.size ≤ q → va_A [] s.heap.size q := Anw
  have hAz : ∀ q, va_A [] s.heap.size q → z0 ≤ q := A0z hz
  have hS : va_S (va_A [] s.heap.size) s.heap s.heap [] := va_S.rf
  have hl : lv_has ls 6 [(0, .ref (a 0)), (1, .int p0), (2, .int p1)] := hl
  refine lv_iload_n hx hb dX11_chance_0 rfl (lv_at hl 1 rfl) ?_
  refine lv_iconst (v := 0) hx hb dX11_chance_1 (by decide) ?_
  refine lv_ldcw (v := 65535) hx hb hown (ht _ w_140) dX11_chance_2 ?_
  have hPc : va_P D vwCl [] _ := (ro0 hP0 hS).sub (ws' := []) [] rfl
  have hDc : va_D (fun q => z0 ≤ q) [] := hD0.pick (ws' := []) [] (by decide) rfl
  have hFc := AnA (ws := []) hS.1
  refine vx_callv (vx_runS (As := [.int p0, .int 0, .int 65535]) (rest := []) ⟨hx, hb, hml, hown, ht⟩ (k_X11_needRange l hfl D g z0 _ a p0 0 65535) (va_cwS 3 ht (gS w_51 w_53 w_31 w_52) rfl rfl rfl (by decide +kernel) (le2 rfl rfl)) ⟨PP.blind, PP.mk' hK hZ hz hAz hS hPc hDc⟩ rfl rfl hl.1 rfl (lv_room (Nat.le_of_ble_eq_true rfl)) dX11_chance_5 (le2 rfl rfl)) hS (fun q _ h => hFc q h) hFc (fun q _ h => hFc q h) (fun E ce q9 u t H locs ht1 hvm hw hB hz1 hk1 hS hcell hv9 hcl => ?_) (fun u t H locs ht1 hvm hw hB hz1 hk1 hS => ?_)
  · obtain ⟨rfl, hB⟩ := hB
    rcases hB with hB | hB
    · have c_1 := hB
      exact out0 htab hlocks hS hcell hv9 hcl (fun t _ hF => ⟨(), trivial, (Or.inl ⟨rfl, (Or.inl c_1)⟩), hF⟩) (fun _ h => h) rfl rfl
    · obtain ⟨c_2, c_3⟩ := hB
      exact out0 htab hlocks hS hcell hv9 hcl (fun t _ hF => ⟨(), trivial, (Or.inl ⟨rfl, (Or.inr (Or.inl ⟨c_2, c_3⟩))⟩), hF⟩) (fun _ h => h) rfl rfl
  · obtain ⟨c_4, c_5⟩ := hw
    refine lv_iload_n hx hb dX11_chance_8 rfl (lv_at hl 2 rfl) ?_
    refine lv_iconst (v := 1) hx hb dX11_chance_9 (by decide) ?_
    refine lv_sipush (v := 200) hx hb dX11_chance_10 (by decide) ?_
    have hPc : va_P D vwCl [] _ := (ro0 hP0 hS).sub (ws' := []) [] rfl
    have hDc : va_D (fun q => z0 ≤ q) [] := hD0.pick (ws' := []) [] (by decide) rfl
    have hFc := AnA (ws := []) hS.1
    refine vx_callv (vx_runS (As := [.int p1, .int 1, .int 200]) (rest := []) ⟨hx, hb, hml, hown, ht⟩ (k_X11_needRange l hfl D g z0 _ a p1 1 200) (va_cwS 3 ht (gS w_51 w_53 w_31 w_52) rfl rfl rfl (by decide +kernel) (le2 rfl rfl)) ⟨PP.blind, PP.mk' hK hZ hz hAz hS hPc hDc⟩ rfl rfl hl.1 rfl (lv_room (Nat.le_of_ble_eq_true rfl)) dX11_chance_13 (le2 rfl rfl)) hS (fun q _ h => hFc q h) hFc (fun q _ h => hFc q h) (fun E ce q9 u t H locs ht1 hvm hw hB hz1 hk1 hS hcell hv9 hcl => ?_) (fun u t H locs ht1 hvm hw hB hz1 hk1 hS => ?_)
    · obtain ⟨rfl, hB⟩ := hB
      rcases hB with hB | hB
      · have c_6 := hB
        exact out0 htab hlocks hS hcell hv9 hcl (fun t _ hF => ⟨(), trivial, (Or.inl ⟨rfl, (Or.inr (Or.inr (Or.inl ⟨c_4, c_5, c_6⟩)))⟩), hF⟩) (fun _ h => h) rfl rfl
      · obtain ⟨c_7, c_8⟩ := hB
        exact out0 htab hlocks hS hcell hv9 hcl (fun t _ hF => ⟨(), trivial, (Or.inl ⟨rfl, (Or.inr (Or.inr (Or.inr ⟨c_4, c_5, c_7, c_8⟩)))⟩), hF⟩) (fun _ h => h) rfl rfl
    · obtain ⟨c_9, c_10⟩ := hw
      refine lv_aload_n hx hb dX11_chance_16 rfl (lv_at hl 0 rfl) ?_
      have hPc : va_P D vwCl [((a 0), f_x a), ((a 1), f_net a)] _ := (ro0 hP0 hS).sub (ws' := [((a 0), f_x a), ((a 1), f_net a)]) [0, 1] rfl
      have hDc : va_D (fun q => z0 ≤ q) [((a 0), f_x a), ((a 1), f_net a)] := hD0.pick (ws' := [((a 0), f_x a), ((a 1), f_net a)]) [0, 1] (by decide) rfl
      have hFc := AnA (ws := []) hS.1
      refine vx_callv (vx_runV (As := []) (rest := []) ⟨hx, hb, hml, hown, ht⟩ (k_X11_needClosedNet l hfl D g z0 _ a) (cwV 0 ht (gV w_71 w_73 w_74 w_31 w_72) rfl rfl rfl (by decide +kernel) (le2 rfl rfl)) ⟨PP.blind, va_recv hK.1 (ro0 hP0 hS) (ci := 17) (q0 := 0) rfl rfl, PP.mk' hK hZ hz hAz hS hPc hDc⟩ rfl rfl hl.1 rfl (lv_room (Nat.le_of_ble_eq_true rfl)) dX11_chance_17 (le2 rfl rfl)) hS (fun q _ h => hFc q h) hFc (fun q _ h => hFc q h) (fun E ce q9 u t H locs ht1 hvm hw hB hz1 hk1 hS hcell hv9 hcl => ?_) (fun u t H locs ht1 hvm hw hB hz1 hk1 hS => ?_)
      · obtain ⟨rfl, hB⟩ := hB
        exact out0 htab hlocks hS hcell hv9 hcl (fun t _ hF => ⟨(), trivial, (Or.inr ⟨rfl, ⟨c_4, c_5, c_9, c_10⟩⟩), hF⟩) (fun _ h => h) rfl rfl
      · exact hw.elim
set_option maxHeartbeats 4000000 in
set_option maxRecDepth 100000 in
theorem k_X3_countClasses (l : Launch) (D : va_G) (g : Nat → ClassId) (z0 sz : Nat) (a : Nat → Nat) : Met l yX3_countClasses (.code yX3_countClasses cX3_countClasses 3 (some .int) :: TG) (rmk 0 0 0 0) (va_Pc [.ref (a 2)] (PP D g z0 sz [((a 2), f_book a)])) (va_Qi (fun (r : Int32) (u : Unit) => (r = 0) ∧ True) (fun (_ : Unit) (_ : State) => True) (va_A [] sz)) 0 0 (va_A [] sz) := by
  refine met0 (cc := cX3_countClasses) (n := 3) (by decide) (Nat.le_of_ble_eq_true rfl) ?_
  intro p e s m args below meth c hx hb hr hml hown ht hlocks hnm hP0 hD0 hK hZ hsz hz ls hl
  subst hsz
  have hA : ∀ q : Nat, s.heap.size ≤ q → va_A [] s.heap.size q := Anw
  have hAz : ∀ q, va_A [] s.heap.size q → z0 ≤ q := A0z hz
  have hS : va_S (va_A [] s.heap.size) s.heap s.heap [] := va_S.rf
  have hl : lv_has ls 3 [(0, .ref (a 2))] := hl
  refine lv_iconst (v := 0) hx hb dX3_countClasses_0 (by decide) ?_
  refine lv_istore_n (lv' := [(1, .int 0), (0, .ref (a 2))]) hx hb dX3_countClasses_1 rfl hl (by decide) rfl (fun ls hl => ?_)
  refine lv_iconst (v := 0) hx hb dX3_countClasses_2 (by decide) ?_
  refine lv_istore_n (lv' := [(2, .int 0), (1, .int 0), (0, .ref (a 2))]) hx hb dX3_countClasses_3 rfl hl (by decide) rfl (fun ls hl => ?_)
  refine lv_iload_n hx hb dX3_countClasses_4 rfl (lv_at hl 0 rfl) ?_
  refine lv_aload_n hx hb dX3_countClasses_5 rfl (lv_at hl 2 rfl) ?_
  refine va_get (D := D) (ci := 9) (v := .int 0) (C := RX3) (T := TX3) (N := 14) hx hb ht in_X3 hown hK.1 (ro0 hP0 hS) 0 rfl rfl 11 (by decide) (ht _ w_141) (fun _ h9 => h9) rfl dX3_countClasses_6 ?_
  refine lv_icmp_ge (tgt := 29) hx hb dX3_countClasses_9 (by decide) (fun c_1 => ?_) (fun c_1 => ?_)
  · refine lv_iload_n hx hb dX3_countClasses_29 rfl (lv_at hl 1 rfl) ?_
    refine W.widen (k := 0) (n := 0) (Nat.le_of_ble_eq_true rfl) (Nat.le_of_ble_eq_true rfl) ?_
    exact W.iret (v := 0) hx hb hr (fun t ht9 hW9 => ⟨⟨0, (), rfl, ⟨rfl, trivial⟩, trivial⟩, hS.F ht9⟩) hS.2.2 dX3_countClasses_30 hlocks
  · exact absurd c_1 (by decide)
set_option maxHeartbeats 4000000 in
set_option maxRecDepth 100000 in
theorem k_X11_classes (l : Launch) (D : va_G) (g : Nat → ClassId) (z0 sz : Nat) (a : Nat → Nat) : Met l yX11_classes (.code yX11_classes cX11_classes 1 (some .int) :: TG) (rmk 1 0 0 22) (va_Pc [.ref (a 0)] (PP D g z0 sz [((a 0), f_x a), ((a 2), f_book a)])) (va_Qi (fun (r : Int32) (u : Unit) => (r = 0) ∧ True) (fun (_ : Unit) (_ : State) => True) (va_A [] sz)) 0 0 (va_A [] sz) := by
  refine met0 (cc := cX11_classes) (n := 1) (by decide) (Nat.le_of_ble_eq_true rfl) ?_
  intro p e s m args below meth c hx hb hr hml hown ht hlocks hnm hP0 hD0 hK hZ hsz hz ls hl
  subst hsz
  have hA : ∀ q : Nat, s.heap.size ≤ q → va_A [] s.heap.size q := Anw
  have hAz : ∀ q, va_A [] s.heap.size q → z0 ≤ q := A0z hz
  have hS : va_S (va_A [] s.heap.size) s.heap s.heap [] := va_S.rf
  have hl : lv_has ls 1 [(0, .ref (a 0))] := hl
  refine lv_aload_n hx hb dX11_classes_0 rfl (lv_at hl 0 rfl) ?_
  refine va_get (D := D) (ci := 17) (v := .ref (a 2)) (C := RX11) (T := TX11) (N := 11) hx hb ht in_X11 hown hK.1 (ro0 hP0 hS) 0 rfl rfl 1 (by decide) (ht _ w_32) (fun _ h9 => h9) rfl dX11_classes_1 ?_
  have hPc : va_P D vwCl [((a 2), f_book a)] _ := (ro0 hP0 hS).sub (ws' := [((a 2), f_book a)]) [1] rfl
  have hDc : va_D (fun q => z0 ≤ q) [((a 2), f_book a)] := hD0.pick (ws' := [((a 2), f_book a)]) [1] (by decide) rfl
  have hFc := AnA (ws := []) hS.1
  refine va_calli (va_runV (As := []) (rest := []) ⟨hx, hb, hml, hown, ht⟩ (k_X3_countClasses l D g z0 _ a) (cwV 0 ht (gV w_142 w_144 w_145 w_146 w_143) rfl rfl rfl (by decide +kernel) (le2 rfl rfl)) ⟨PP.blind, va_recv hK.1 (ro0 hP0 hS) (ci := 9) (q0 := 1) rfl rfl, PP.mk' hK hZ hz hAz hS hPc hDc⟩ rfl rfl hl.1 rfl (lv_room (Nat.le_of_ble_eq_true rfl)) dX11_classes_4 (le2 rfl rfl)) hS (fun q _ h => hFc q h) hFc (fun r u t H locs ht1 hvm hw hB hz1 hk1 hS => ?_)
  obtain ⟨rfl, hw⟩ := hw
  refine W.widen (k := 0) (n := 0) (Nat.le_of_ble_eq_true rfl) (Nat.le_of_ble_eq_true rfl) ?_
  exact W.iret (v := 0) hx hb hr (fun t ht9 hW9 => ⟨⟨0, (), rfl, ⟨rfl, trivial⟩, trivial⟩, hS.F ht9⟩) hS.2.2 dX11_classes_7 hlocks
set_option maxHeartbeats 4000000 in
set_option maxRecDepth 100000 in
theorem k_X6_canClose (l : Launch) (D : va_G) (g : Nat → ClassId) (z0 sz : Nat) (a : Nat → Nat) : Met l yX6_canClose (.code yX6_canClose cX6_canClose 3 (some .boolean) :: TG) (rmk 0 0 0 0) (va_Pc [.ref (a 1)] (PP D g z0 sz [((a 1), f_net a)])) (va_Qi (fun (r : Int32) (u : Unit) => (r = 0) ∧ True) (fun (_ : Unit) (_ : State) => True) (va_A [] sz)) 0 0 (va_A [] sz) := by
  refine met0 (cc := cX6_canClose) (n := 3) (by decide) (Nat.le_of_ble_eq_true rfl) ?_
  intro p e s m args below meth c hx hb hr hml hown ht hlocks hnm hP0 hD0 hK hZ hsz hz ls hl
  subst hsz
  have hA : ∀ q : Nat, s.heap.size ≤ q → va_A [] s.heap.size q := Anw
  have hAz : ∀ q, va_A [] s.heap.size q → z0 ≤ q := A0z hz
  have hS : va_S (va_A [] s.heap.size) s.heap s.heap [] := va_S.rf
  have hl : lv_has ls 3 [(0, .ref (a 1))] := hl
  refine lv_aload_n hx hb dX6_canClose_0 rfl (lv_at hl 0 rfl) ?_
  refine va_get (D := D) (ci := 12) (v := .int 0) (C := RX6) (T := TX6) (N := 18) hx hb ht in_X6 hown hK.1 (ro0 hP0 hS) 0 rfl rfl 14 (by decide) (ht _ w_130) (fun _ h9 => h9) rfl dX6_canClose_1 ?_
  refine lv_if_le (tgt := 11) hx hb dX6_canClose_4 (by decide) (fun c_1 => ?_) (fun c_1 => ?_)
  · refine lv_iconst (v := 0) hx hb dX6_canClose_11 (by decide) ?_
    refine lv_istore_n (lv' := [(1, .int 0), (0, .ref (a 1))]) hx hb dX6_canClose_12 rfl hl (by decide) rfl (fun ls hl => ?_)
    refine lv_iconst (v := 0) hx hb dX6_canClose_13 (by decide) ?_
    refine lv_istore_n (lv' := [(2, .int 0), (1, .int 0), (0, .ref (a 1))]) hx hb dX6_canClose_14 rfl hl (by decide) rfl (fun ls hl => ?_)
    refine lv_iload_n hx hb dX6_canClose_15 rfl (lv_at hl 0 rfl) ?_
    refine lv_aload_n hx hb dX6_canClose_16 rfl (lv_at hl 2 rfl) ?_
    refine va_get (D := D) (ci := 12) (v := .int 0) (C := RX6) (T := TX6) (N := 18) hx hb ht in_X6 hown hK.1 (ro0 hP0 hS) 0 rfl rfl 12 (by decide) (ht _ w_124) (fun _ h9 => h9) rfl dX6_canClose_17 ?_
    refine lv_icmp_ge (tgt := 60) hx hb dX6_canClose_20 (by decide) (fun c_2 => ?_) (fun c_2 => ?_)
    · refine lv_iload_n hx hb dX6_canClose_60 rfl (lv_at hl 1 rfl) ?_
      refine W.widen (k := 0) (n := 0) (Nat.le_of_ble_eq_true rfl) (Nat.le_of_ble_eq_true rfl) ?_
      exact W.zret (v := 0) hx hb hr rfl (fun t ht9 hW9 => ⟨⟨0, (), rfl, ⟨rfl, trivial⟩, trivial⟩, hS.F ht9⟩) hS.2.2 dX6_canClose_61 hlocks
    · exact absurd c_2 (by decide)
  · exact absurd c_1 (by decide)
set_option maxHeartbeats 4000000 in
set_option maxRecDepth 100000 in
theorem k_X11_close (l : Launch) (hfl : l.stackTraces = false) (D : va_G) (g : Nat → ClassId) (z0 sz : Nat) (a : Nat → Nat) : vx_Met l yX11_close (.code yX11_close cX11_close 1 (some .int) :: TG) (rmk 6 1 6 81) (va_Pc [.ref (a 0)] (PP D g z0 sz [((a 0), f_x a), ((a 1), f_net a)])) (va_Qi (fun (r : Int32) (u : Unit) => False) (fun (_ : Unit) (_ : State) => True) (va_A [] sz)) (vx_X (fun _ : Unit => True) (fun E _ _ => (E = "java/lang/UnsupportedOperationException" ∧ True)) (va_A [] sz)) 1 6 (va_A [] sz) := by
  refine vxm0 (cc := cX11_close) (n := 1) (by decide) (Nat.le_of_ble_eq_true rfl) ?_
  intro p e s m args below meth c hx hb hr hml htab hown ht hlocks hnm hP0 hD0 hK hZ hsz hz ls hl
  subst hsz
  have hA : ∀ q : Nat, s.heap.size ≤ q → va_A [] s.heap.size q := Anw
  have hAz : ∀ q, va_A [] s.heap.size q → z0 ≤ q := A0z hz
  have hS : va_S (va_A [] s.heap.size) s.heap s.heap [] := va_S.rf
  have hl : lv_has ls 1 [(0, .ref (a 0))] := hl
  refine lv_aload_n hx hb dX11_close_0 rfl (lv_at hl 0 rfl) ?_
  have hPc : va_P D vwCl [((a 0), f_x a), ((a 1), f_net a)] _ := (ro0 hP0 hS).sub (ws' := [((a 0), f_x a), ((a 1), f_net a)]) [0, 1] rfl
  have hDc : va_D (fun q => z0 ≤ q) [((a 0), f_x a), ((a 1), f_net a)] := hD0.pick (ws' := [((a 0), f_x a), ((a 1), f_net a)]) [0, 1] (by decide) rfl
  have hFc := AnA (ws := []) hS.1
  refine va_callv (va_runV (As := []) (rest := []) ⟨hx, hb, hml, hown, ht⟩ (k_X11_needOpenNet l D g z0 _ a) (cwV 0 ht (gV w_119 w_121 w_122 w_31 w_120) rfl rfl rfl (by decide +kernel) (le2 rfl rfl)) ⟨PP.blind, va_recv hK.1 (ro0 hP0 hS) (ci := 17) (q0 := 0) rfl rfl, PP.mk' hK hZ hz hAz hS hPc hDc⟩ rfl rfl hl.1 rfl (lv_room (Nat.le_of_ble_eq_true rfl)) dX11_close_1 (le2 rfl rfl)) hS (fun q _ h => hFc q h) hFc (fun u t H locs ht1 hvm hw hB hz1 hk1 hS => ?_)
  refine lv_aload_n hx hb dX11_close_4 rfl (lv_at hl 0 rfl) ?_
  refine va_get (D := D) (ci := 17) (v := .ref (a 1)) (C := RX11) (T := TX11) (N := 11) hx hb ht in_X11 hown hK.1 (ro0 hP0 hS) 0 rfl rfl 0 (by decide) (ht _ w_66) (fun _ h9 => h9) rfl dX11_close_5 ?_
  have hPc : va_P D vwCl [((a 1), f_net a)] _ := (ro0 hP0 hS).sub (ws' := [((a 1), f_net a)]) [1] rfl
  have hDc : va_D (fun q => z0 ≤ q) [((a 1), f_net a)] := hD0.pick (ws' := [((a 1), f_net a)]) [1] (by decide) rfl
  have hFc := AnA (ws := []) hS.1
  refine va_calli (va_runV (As := []) (rest := []) ⟨hx, hb, hml, hown, ht⟩ (k_X6_canClose l D g z0 _ a) (cwV 0 ht (gV w_147 w_149 w_150 w_135 w_148) rfl rfl rfl (by decide +kernel) (le2 rfl rfl)) ⟨PP.blind, va_recv hK.1 (ro0 hP0 hS) (ci := 12) (q0 := 1) rfl rfl, PP.mk' hK hZ hz hAz hS hPc hDc⟩ rfl rfl hl.1 rfl (lv_room (Nat.le_of_ble_eq_true rfl)) dX11_close_8 (le2 rfl rfl)) hS (fun q _ h => hFc q h) hFc (fun r u t H locs ht1 hvm hw hB hz1 hk1 hS => ?_)
  obtain ⟨rfl, hw⟩ := hw
  refine lv_if_ne (tgt := 22) hx hb dX11_close_11 (by decide) (fun c_1 => ?_) (fun c_1 => ?_)
  · exact absurd c_1 (by decide)
  · exact thr0 hx hb hfl hown ht hK.2.2 hZ hAz hS hl hml htab hlocks (by decide +kernel) w_69 w_70 at_X11_127 dX11_close_14 dX11_close_17 dX11_close_18 dX11_close_21 rfl rfl rfl rfl (fun t _ hF => ⟨(), trivial, ⟨rfl, trivial⟩, hF⟩) (fun _ h => h) rfl rfl
set_option maxHeartbeats 4000000 in
set_option maxRecDepth 100000 in
theorem k_X2_add (l : Launch) (D : va_G) (g : Nat → ClassId) (z0 sz : Nat) (a : Nat → Nat) (p0 : Int32) (p1 : Int32) (p2 : Int32) : Met l yX2_add (.code yX2_add cX2_add 4 (some .int) :: TG) (rmk 0 0 0 0) (va_Pc [.ref (a 11), .int p0, .int p1, .int p2] (PP D g z0 sz [((a 11), f_cores a), ((a 63), .inl (g 0, 6, .inl (fun _ => 0))), ((a 64), .inl (g 0, 6, .inl (fun _ => 0))), ((a 65), .inl (g 0, 6, .inl (fun _ => 0)))])) (va_Qi (fun (r : Int32) (u : Unit) => (r = 0) ∧ True) (fun (u : Unit) (t : State) => va_P D vwCl [((a 11), .inr (8, [.ref (a 63), .ref (a 64), .ref (a 65), .ref (a 66), .ref (a 67), .ref (a 68), .int 1])), ((a 63), .inl (g 0, 6, .inl (upd (fun _ => 0) (0 : Int32).toNatClampNeg p0))), ((a 64), .inl (g 0, 6, .inl (upd (fun _ => 0) (0 : Int32).toNatClampNeg p1))), ((a 65), .inl (g 0, 6, .inl (upd (fun _ => 0) (0 : Int32).toNatClampNeg p2)))] t.heap ∧ va_D (va_A [((a 11), f_cores a), ((a 63), .inl (g 0, 6, .inl (fun _ => 0))), ((a 64), .inl (g 0, 6, .inl (fun _ => 0))), ((a 65), .inl (g 0, 6, .inl (fun _ => 0)))] sz) [((a 11), .inr (8, [.ref (a 63), .ref (a 64), .ref (a 65), .ref (a 66), .ref (a 67), .ref (a 68), .int 1])), ((a 63), .inl (g 0, 6, .inl (upd (fun _ => 0) (0 : Int32).toNatClampNeg p0))), ((a 64), .inl (g 0, 6, .inl (upd (fun _ => 0) (0 : Int32).toNatClampNeg p1))), ((a 65), .inl (g 0, 6, .inl (upd (fun _ => 0) (0 : Int32).toNatClampNeg p2)))]) (va_A [((a 11), f_cores a), ((a 63), .inl (g 0, 6, .inl (fun _ => 0))), ((a 64), .inl (g 0, 6, .inl (fun _ => 0))), ((a 65), .inl (g 0, 6, .inl (fun _ => 0)))] sz)) 0 0 (va_A [((a 11), f_cores a), ((a 63), .inl (g 0, 6, .inl (fun _ => 0))), ((a 64), .inl (g 0, 6, .inl (fun _ => 0))), ((a 65), .inl (g 0, 6, .inl (fun _ => 0)))] sz) := by
  refine met0 (cc := cX2_add) (n := 4) (by decide) (Nat.le_of_ble_eq_true rfl) ?_
  intro p e s m args below meth c hx hb hr hml hown ht hlocks hnm hP0 hD0 hK hZ hsz hz ls hl
  subst hsz
  have hA : ∀ q : Nat, s.heap.size ≤ q → va_A [((a 11), f_cores a), ((a 63), .inl (g 0, 6, .inl (fun _ => 0))), ((a 64), .inl (g 0, 6, .inl (fun _ => 0))), ((a 65), .inl (g 0, 6, .inl (fun _ => 0)))] s.heap.size q := Anw
  have hAz : ∀ q, va_A [((a 11), f_cores a), ((a 63), .inl (g 0, 6, .inl (fun _ => 0))), ((a 64), .inl (g 0, 6, .inl (fun _ => 0))), ((a 65), .inl (g 0, 6, .inl (fun _ => 0)))] s.heap.size q → z0 ≤ q := Awz hz hD0
  have hS : va_S (va_A [((a 11), f_cores a), ((a 63), .inl (g 0, 6, .inl (fun _ => 0))), ((a 64), .inl (g 0, 6, .inl (fun _ => 0))), ((a 65), .inl (g 0, 6, .inl (fun _ => 0)))] s.heap.size) s.heap s.heap [] := va_S.rf
  have hD : va_D (va_A [((a 11), f_cores a), ((a 63), .inl (g 0, 6, .inl (fun _ => 0))), ((a 64), .inl (g 0, 6, .inl (fun _ => 0))), ((a 65), .inl (g 0, 6, .inl (fun _ => 0)))] s.heap.size) [((a 11), f_cores a), ((a 63), .inl (g 0, 6, .inl (fun _ => 0))), ((a 64), .inl (g 0, 6, .inl (fun _ => 0))), ((a 65), .inl (g 0, 6, .inl (fun _ => 0)))] := hD0.self
  have hP : va_P D vwCl [((a 11), f_cores a), ((a 63), .inl (g 0, 6, .inl (fun _ => 0))), ((a 64), .inl (g 0, 6, .inl (fun _ => 0))), ((a 65), .inl (g 0, 6, .inl (fun _ => 0)))] s.heap := hP0
  have hl : lv_has ls 4 [(0, .ref (a 11)), (1, .int p0), (2, .int p1), (3, .int p2)] := hl
  refine lv_aload_n hx hb dX2_add_0 rfl (lv_at hl 0 rfl) ?_
  refine va_get (D := D) (ci := 8) (v := .ref (a 63)) (C := RX2) (T := TX2) (N := 7) hx hb ht in_X2 hown hK.1 hP 0 rfl rfl 0 (by decide) (ht _ w_151) (fun _ h9 => h9) rfl dX2_add_1 ?_
  refine lv_aload_n hx hb dX2_add_4 rfl (lv_at hl 0 rfl) ?_
  refine va_get (D := D) (ci := 8) (v := .int 0) (C := RX2) (T := TX2) (N := 7) hx hb ht in_X2 hown hK.1 hP 0 rfl rfl 6 (by decide) (ht _ w_152) (fun _ h9 => h9) rfl dX2_add_5 ?_
  refine lv_iload_n hx hb dX2_add_8 rfl (lv_at hl 1 rfl) ?_
  refine va_iast hx hb hK.1 hP hD hS 1 0 rfl rfl (by unfold vp_in; decide) dX2_add_9 (fun H locs hP hD hS => ?_)
  have hP : va_P D vwCl [((a 11), f_cores a), ((a 63), .inl (g 0, 6, .inl (upd (fun _ => 0) (0 : Int32).toNatClampNeg p0))), ((a 64), .inl (g 0, 6, .inl (fun _ => 0))), ((a 65), .inl (g 0, 6, .inl (fun _ => 0)))] H := hP
  have hD : va_D (va_A [((a 11), f_cores a), ((a 63), .inl (g 0, 6, .inl (fun _ => 0))), ((a 64), .inl (g 0, 6, .inl (fun _ => 0))), ((a 65), .inl (g 0, 6, .inl (fun _ => 0)))] s.heap.size) [((a 11), f_cores a), ((a 63), .inl (g 0, 6, .inl (upd (fun _ => 0) (0 : Int32).toNatClampNeg p0))), ((a 64), .inl (g 0, 6, .inl (fun _ => 0))), ((a 65), .inl (g 0, 6, .inl (fun _ => 0)))] := hD
  refine lv_aload_n hx hb dX2_add_10 rfl (lv_at hl 0 rfl) ?_
  refine va_get (D := D) (ci := 8) (v := .ref (a 64)) (C := RX2) (T := TX2) (N := 7) hx hb ht in_X2 hown hK.1 hP 0 rfl rfl 1 (by decide) (ht _ w_153) (fun _ h9 => h9) rfl dX2_add_11 ?_
  refine lv_aload_n hx hb dX2_add_14 rfl (lv_at hl 0 rfl) ?_
  refine va_get (D := D) (ci := 8) (v := .int 0) (C := RX2) (T := TX2) (N := 7) hx hb ht in_X2 hown hK.1 hP 0 rfl rfl 6 (by decide) (ht _ w_152) (fun _ h9 => h9) rfl dX2_add_15 ?_
  refine lv_iload_n hx hb dX2_add_18 rfl (lv_at hl 2 rfl) ?_
  refine va_iast hx hb hK.1 hP hD hS 2 0 rfl rfl (by unfold vp_in; decide) dX2_add_19 (fun H locs hP hD hS => ?_)
  have hP : va_P D vwCl [((a 11), f_cores a), ((a 63), .inl (g 0, 6, .inl (upd (fun _ => 0) (0 : Int32).toNatClampNeg p0))), ((a 64), .inl (g 0, 6, .inl (upd (fun _ => 0) (0 : Int32).toNatClampNeg p1))), ((a 65), .inl (g 0, 6, .inl (fun _ => 0)))] H := hP
  have hD : va_D (va_A [((a 11), f_cores a), ((a 63), .inl (g 0, 6, .inl (fun _ => 0))), ((a 64), .inl (g 0, 6, .inl (fun _ => 0))), ((a 65), .inl (g 0, 6, .inl (fun _ => 0)))] s.heap.size) [((a 11), f_cores a), ((a 63), .inl (g 0, 6, .inl (upd (fun _ => 0) (0 : Int32).toNatClampNeg p0))), ((a 64), .inl (g 0, 6, .inl (upd (fun _ => 0) (0 : Int32).toNatClampNeg p1))), ((a 65), .inl (g 0, 6, .inl (fun _ => 0)))] := hD
  refine lv_aload_n hx hb dX2_add_20 rfl (lv_at hl 0 rfl) ?_
  refine va_get (D := D) (ci := 8) (v := .ref (a 65)) (C := RX2) (T := TX2) (N := 7) hx hb ht in_X2 hown hK.1 hP 0 rfl rfl 2 (by decide) (ht _ w_154) (fun _ h9 => h9) rfl dX2_add_21 ?_
  refine lv_aload_n hx hb dX2_add_24 rfl (lv_at hl 0 rfl) ?_
  refine va_get (D := D) (ci := 8) (v := .int 0) (C := RX2) (T := TX2) (N := 7) hx hb ht in_X2 hown hK.1 hP 0 rfl rfl 6 (by decide) (ht _ w_152) (fun _ h9 => h9) rfl dX2_add_25 ?_
  refine lv_iload_n hx hb dX2_add_28 rfl (lv_at hl 3 rfl) ?_
  refine va_iast hx hb hK.1 hP hD hS 3 0 rfl rfl (by unfold vp_in; decide) dX2_add_29 (fun H locs hP hD hS => ?_)
  have hP : va_P D vwCl [((a 11), f_cores a), ((a 63), .inl (g 0, 6, .inl (upd (fun _ => 0) (0 : Int32).toNatClampNeg p0))), ((a 64), .inl (g 0, 6, .inl (upd (fun _ => 0) (0 : Int32).toNatClampNeg p1))), ((a 65), .inl (g 0, 6, .inl (upd (fun _ => 0) (0 : Int32).toNatClampNeg p2)))] H := hP
  have hD : va_D (va_A [((a 11), f_cores a), ((a 63), .inl (g 0, 6, .inl (fun _ => 0))), ((a 64), .inl (g 0, 6, .inl (fun _ => 0))), ((a 65), .inl (g 0, 6, .inl (fun _ => 0)))] s.heap.size) [((a 11), f_cores a), ((a 63), .inl (g 0, 6, .inl (upd (fun _ => 0) (0 : Int32).toNatClampNeg p0))), ((a 64), .inl (g 0, 6, .inl (upd (fun _ => 0) (0 : Int32).toNatClampNeg p1))), ((a 65), .inl (g 0, 6, .inl (upd (fun _ => 0) (0 : Int32).toNatClampNeg p2)))] := hD
  refine lv_aload_n hx hb dX2_add_30 rfl (lv_at hl 0 rfl) ?_
  refine lv_dup hx hb dX2_add_31 rfl ?_
  refine va_get (D := D) (ci := 8) (v := .int 0) (C := RX2) (T := TX2) (N := 7) hx hb ht in_X2 hown hK.1 hP 0 rfl rfl 6 (by decide) (ht _ w_152) (fun _ h9 => h9) rfl dX2_add_32 ?_
  refine lv_iconst (v := 1) hx hb dX2_add_35 (by decide) ?_
  refine lv_iadd hx hb dX2_add_36 ?_
  refine r_topi (v := 1) (by decide) ?_
  refine va_put (D := D) (ci := 8) (v := .int 1) (ty := .int) (C := RX2) (T := TX2) (N := 7) hx hb ht in_X2 tyX2 tyX2_ok nmX2 hown hK.1 hP hD hS 0 rfl rfl 6 (by decide) (ht _ w_152) (fun _ h9 => h9) rfl (by decide +kernel) rfl rfl (Nat.le_of_ble_eq_true rfl) dX2_add_37 (fun H locs hP hD hS => ?_)
  have hP : va_P D vwCl [((a 11), .inr (8, [.ref (a 63), .ref (a 64), .ref (a 65), .ref (a 66), .ref (a 67), .ref (a 68), .int 1])), ((a 63), .inl (g 0, 6, .inl (upd (fun _ => 0) (0 : Int32).toNatClampNeg p0))), ((a 64), .inl (g 0, 6, .inl (upd (fun _ => 0) (0 : Int32).toNatClampNeg p1))), ((a 65), .inl (g 0, 6, .inl (upd (fun _ => 0) (0 : Int32).toNatClampNeg p2)))] H := hP
  have hD : va_D (va_A [((a 11), f_cores a), ((a 63), .inl (g 0, 6, .inl (fun _ => 0))), ((a 64), .inl (g 0, 6, .inl (fun _ => 0))), ((a 65), .inl (g 0, 6, .inl (fun _ => 0)))] s.heap.size) [((a 11), .inr (8, [.ref (a 63), .ref (a 64), .ref (a 65), .ref (a 66), .ref (a 67), .ref (a 68), .int 1])), ((a 63), .inl (g 0, 6, .inl (upd (fun _ => 0) (0 : Int32).toNatClampNeg p0))), ((a 64), .inl (g 0, 6, .inl (upd (fun _ => 0) (0 : Int32).toNatClampNeg p1))), ((a 65), .inl (g 0, 6, .inl (upd (fun _ => 0) (0 : Int32).toNatClampNeg p2)))] := hD
  refine lv_aload_n hx hb dX2_add_40 rfl (lv_at hl 0 rfl) ?_
  refine va_get (D := D) (ci := 8) (v := .int 1) (C := RX2) (T := TX2) (N := 7) hx hb ht in_X2 hown hK.1 hP 0 rfl rfl 6 (by decide) (ht _ w_152) (fun _ h9 => h9) rfl dX2_add_41 ?_
  refine lv_iconst (v := 1) hx hb dX2_add_44 (by decide) ?_
  refine lv_isub hx hb dX2_add_45 ?_
  refine r_topi (v := 0) (by decide) ?_
  have hP9 := hP.sub (ws' := [((a 11), .inr (8, [.ref (a 63), .ref (a 64), .ref (a 65), .ref (a 66), .ref (a 67), .ref (a 68), .int 1])), ((a 63), .inl (g 0, 6, .inl (upd (fun _ => 0) (0 : Int32).toNatClampNeg p0))), ((a 64), .inl (g 0, 6, .inl (upd (fun _ => 0) (0 : Int32).toNatClampNeg p1))), ((a 65), .inl (g 0, 6, .inl (upd (fun _ => 0) (0 : Int32).toNatClampNeg p2)))]) [0, 1, 2, 3] rfl
  have hD9 := hD.sub (ws' := [((a 11), .inr (8, [.ref (a 63), .ref (a 64), .ref (a 65), .ref (a 66), .ref (a 67), .ref (a 68), .int 1])), ((a 63), .inl (g 0, 6, .inl (upd (fun _ => 0) (0 : Int32).toNatClampNeg p0))), ((a 64), .inl (g 0, 6, .inl (upd (fun _ => 0) (0 : Int32).toNatClampNeg p1))), ((a 65), .inl (g 0, 6, .inl (upd (fun _ => 0) (0 : Int32).toNatClampNeg p2)))]) [0, 1, 2, 3] (by decide) rfl
  refine W.widen (k := 0) (n := 0) (Nat.le_of_ble_eq_true rfl) (Nat.le_of_ble_eq_true rfl) ?_
  exact W.iret (v := 0) hx hb hr (fun t ht9 hW9 => ⟨⟨0, (), rfl, ⟨rfl, trivial⟩, ⟨(by rw [ht9]; exact hP9), hD9⟩⟩, hS.F ht9⟩) hS.2.2 dX2_add_46 hlocks
set_option maxHeartbeats 4000000 in
set_option maxRecDepth 100000 in
theorem k_X11_core (l : Launch) (hfl : l.stackTraces = false) (D : va_G) (g : Nat → ClassId) (z0 sz : Nat) (a : Nat → Nat) (p0 : Int32) (p1 : Int32) (p2 : Int32) : vx_Met l yX11_core (.code yX11_core cX11_core 4 (some .int) :: TG) (rmk 7 3 18 103) (va_Pc [.ref (a 0), .int p0, .int p1, .int p2] (PP D g z0 sz [((a 0), f_x a), ((a 11), f_cores a), ((a 63), .inl (g 0, 6, .inl (fun _ => 0))), ((a 64), .inl (g 0, 6, .inl (fun _ => 0))), ((a 65), .inl (g 0, 6, .inl (fun _ => 0)))])) (va_Qi (fun (r : Int32) (u : Unit) => (r = 0) ∧ ((¬ p0 < 1) ∧ (p0 ≤ 999) ∧ (¬ p1 < 1) ∧ (p1 ≤ 64) ∧ (¬ p2 < 0) ∧ (p2 ≤ 999))) (fun (u : Unit) (t : State) => va_P D vwCl [] t.heap ∧ va_D (va_A [((a 0), f_x a), ((a 11), f_cores a), ((a 63), .inl (g 0, 6, .inl (fun _ => 0))), ((a 64), .inl (g 0, 6, .inl (fun _ => 0))), ((a 65), .inl (g 0, 6, .inl (fun _ => 0)))] sz) []) (va_A [((a 0), f_x a), ((a 11), f_cores a), ((a 63), .inl (g 0, 6, .inl (fun _ => 0))), ((a 64), .inl (g 0, 6, .inl (fun _ => 0))), ((a 65), .inl (g 0, 6, .inl (fun _ => 0)))] sz)) (vx_X (fun _ : Unit => True) (fun E _ _ => (E = "java/lang/IllegalArgumentException" ∧ ((p0 < 1) ∨ ((¬ p0 < 1) ∧ (¬ p0 ≤ 999)) ∨ ((¬ p0 < 1) ∧ (p0 ≤ 999) ∧ (p1 < 1)) ∨ ((¬ p0 < 1) ∧ (p0 ≤ 999) ∧ (¬ p1 < 1) ∧ (¬ p1 ≤ 64)) ∨ ((¬ p0 < 1) ∧ (p0 ≤ 999) ∧ (¬ p1 < 1) ∧ (p1 ≤ 64) ∧ (p2 < 0)) ∨ ((¬ p0 < 1) ∧ (p0 ≤ 999) ∧ (¬ p1 < 1) ∧ (p1 ≤ 64) ∧ (¬ p2 < 0) ∧ (¬ p2 ≤ 999))))) (va_A [((a 0), f_x a), ((a 11), f_cores a), ((a 63), .inl (g 0, 6, .inl (fun _ => 0))), ((a 64), .inl (g 0, 6, .inl (fun _ => 0))), ((a 65), .inl (g 0, 6, .inl (fun _ => 0)))] sz)) 3 18 (va_A [((a 0), f_x a), ((a 11), f_cores a), ((a 63), .inl (g 0, 6, .inl (fun _ => 0))), ((a 64), .inl (g 0, 6, .inl (fun _ => 0))), ((a 65), .inl (g 0, 6, .inl (fun _ => 0)))] sz) := by
  refine vxm0 (cc := cX11_core) (n := 4) (by decide) (Nat.le_of_ble_eq_true rfl) ?_
  intro p e s m args below meth c hx hb hr hml htab hown ht hlocks hnm hP0 hD0 hK hZ hsz hz ls hl
  subst hsz
  have hA : ∀ q : Nat, s.heap.size ≤ q → va_A [((a 0), f_x a), ((a 11), f_cores a), ((a 63), .inl (g 0, 6, .inl (fun _ => 0))), ((a 64), .inl (g 0, 6, .inl (fun _ => 0))), ((a 65), .inl (g 0, 6, .inl (fun _ => 0)))] s.heap.size q := Anw
  have hAz : ∀ q, va_A [((a 0), f_x a), ((a 11), f_cores a), ((a 63), .inl (g 0, 6, .inl (fun _ => 0))), ((a 64), .inl (g 0, 6, .inl (fun _ => 0))), ((a 65), .inl (g 0, 6, .inl (fun _ => 0)))] s.heap.size q → z0 ≤ q := Awz hz hD0
  have hS : va_S (va_A [((a 0), f_x a), ((a 11), f_cores a), ((a 63), .inl (g 0, 6, .inl (fun _ => 0))), ((a 64), .inl (g 0, 6, .inl (fun _ => 0))), ((a 65), .inl (g 0, 6, .inl (fun _ => 0)))] s.heap.size) s.heap s.heap [] := va_S.rf
  have hD : va_D (va_A [((a 0), f_x a), ((a 11), f_cores a), ((a 63), .inl (g 0, 6, .inl (fun _ => 0))), ((a 64), .inl (g 0, 6, .inl (fun _ => 0))), ((a 65), .inl (g 0, 6, .inl (fun _ => 0)))] s.heap.size) [((a 0), f_x a), ((a 11), f_cores a), ((a 63), .inl (g 0, 6, .inl (fun _ => 0))), ((a 64), .inl (g 0, 6, .inl (fun _ => 0))), ((a 65), .inl (g 0, 6, .inl (fun _ => 0)))] := hD0.self
  have hP : va_P D vwCl [((a 0), f_x a), ((a 11), f_cores a), ((a 63), .inl (g 0, 6, .inl (fun _ => 0))), ((a 64), .inl (g 0, 6, .inl (fun _ => 0))), ((a 65), .inl (g 0, 6, .inl (fun _ => 0)))] s.heap := hP0
  have hl : lv_has ls 4 [(0, .ref (a 0)), (1, .int p0), (2, .int p1), (3, .int p2)] := hl
  refine lv_iload_n hx hb dX11_core_0 rfl (lv_at hl 1 rfl) ?_
  refine lv_iconst (v := 1) hx hb dX11_core_1 (by decide) ?_
  refine lv_sipush (v := 999) hx hb dX11_core_2 (by decide) ?_
  have hPc : va_P D vwCl [] _ := hP.sub (ws' := []) [] rfl
  have hDc : va_D (fun q => z0 ≤ q) [] := (hD.to hAz).pick (ws' := []) [] (by decide) rfl
  have hFc := AnA (ws := [((a 0), f_x a), ((a 11), f_cores a), ((a 63), .inl (g 0, 6, .inl (fun _ => 0))), ((a 64), .inl (g 0, 6, .inl (fun _ => 0))), ((a 65), .inl (g 0, 6, .inl (fun _ => 0)))]) hS.1
  refine vx_callv (vx_runS (As := [.int p0, .int 1, .int 999]) (rest := []) ⟨hx, hb, hml, hown, ht⟩ (k_X11_needRange l hfl D g z0 _ a p0 1 999) (va_cwS 3 ht (gS w_51 w_53 w_31 w_52) rfl rfl rfl (by decide +kernel) (le2 rfl rfl)) ⟨PP.blind, PP.mk' hK hZ hz hAz hS hPc hDc⟩ rfl rfl hl.1 rfl (lv_room (Nat.le_of_ble_eq_true rfl)) dX11_core_5 (le2 rfl rfl)) hS (fun q _ h => hFc q h) hFc (fun q _ h => hFc q h) (fun E ce q9 u t H locs ht1 hvm hw hB hz1 hk1 hS hcell hv9 hcl => ?_) (fun u t H locs ht1 hvm hw hB hz1 hk1 hS => ?_)
  · obtain ⟨rfl, hB⟩ := hB
    rcases hB with hB | hB
    · have c_1 := hB
      exact out0 htab hlocks hS hcell hv9 hcl (fun t _ hF => ⟨(), trivial, ⟨rfl, (Or.inl c_1)⟩, hF⟩) (fun _ h => h) rfl rfl
    · obtain ⟨c_2, c_3⟩ := hB
      exact out0 htab hlocks hS hcell hv9 hcl (fun t _ hF => ⟨(), trivial, ⟨rfl, (Or.inr (Or.inl ⟨c_2, c_3⟩))⟩, hF⟩) (fun _ h => h) rfl rfl
  · obtain ⟨c_4, c_5⟩ := hw
    have hP := ro1 hP hk1
    refine lv_iload_n hx hb dX11_core_8 rfl (lv_at hl 2 rfl) ?_
    refine lv_iconst (v := 1) hx hb dX11_core_9 (by decide) ?_
    refine lv_bipush (v := 64) hx hb dX11_core_10 (by decide) ?_
    have hPc : va_P D vwCl [] _ := hP.sub (ws' := []) [] rfl
    have hDc : va_D (fun q => z0 ≤ q) [] := (hD.to hAz).pick (ws' := []) [] (by decide) rfl
    have hFc := AnA (ws := [((a 0), f_x a), ((a 11), f_cores a), ((a 63), .inl (g 0, 6, .inl (fun _ => 0))), ((a 64), .inl (g 0, 6, .inl (fun _ => 0))), ((a 65), .inl (g 0, 6, .inl (fun _ => 0)))]) hS.1
    refine vx_callv (vx_runS (As := [.int p1, .int 1, .int 64]) (rest := []) ⟨hx, hb, hml, hown, ht⟩ (k_X11_needRange l hfl D g z0 _ a p1 1 64) (va_cwS 3 ht (gS w_51 w_53 w_31 w_52) rfl rfl rfl (by decide +kernel) (le2 rfl rfl)) ⟨PP.blind, PP.mk' hK hZ hz hAz hS hPc hDc⟩ rfl rfl hl.1 rfl (lv_room (Nat.le_of_ble_eq_true rfl)) dX11_core_12 (le2 rfl rfl)) hS (fun q _ h => hFc q h) hFc (fun q _ h => hFc q h) (fun E ce q9 u t H locs ht1 hvm hw hB hz1 hk1 hS hcell hv9 hcl => ?_) (fun u t H locs ht1 hvm hw hB hz1 hk1 hS => ?_)
    · obtain ⟨rfl, hB⟩ := hB
      rcases hB with hB | hB
      · have c_6 := hB
        exact out0 htab hlocks hS hcell hv9 hcl (fun t _ hF => ⟨(), trivial, ⟨rfl, (Or.inr (Or.inr (Or.inl ⟨c_4, c_5, c_6⟩)))⟩, hF⟩) (fun _ h => h) rfl rfl
      · obtain ⟨c_7, c_8⟩ := hB
        exact out0 htab hlocks hS hcell hv9 hcl (fun t _ hF => ⟨(), trivial, ⟨rfl, (Or.inr (Or.inr (Or.inr (Or.inl ⟨c_4, c_5, c_7, c_8⟩))))⟩, hF⟩) (fun _ h => h) rfl rfl
    · obtain ⟨c_9, c_10⟩ := hw
      have hP := ro1 hP hk1
      refine lv_iload_n hx hb dX11_core_15 rfl (lv_at hl 3 rfl) ?_
      refine lv_iconst (v := 0) hx hb dX11_core_16 (by decide) ?_
      refine lv_sipush (v := 999) hx hb dX11_core_17 (by decide) ?_
      have hPc : va_P D vwCl [] _ := hP.sub (ws' := []) [] rfl
      have hDc : va_D (fun q => z0 ≤ q) [] := (hD.to hAz).pick (ws' := []) [] (by decide) rfl
      have hFc := AnA (ws := [((a 0), f_x a), ((a 11), f_cores a), ((a 63), .inl (g 0, 6, .inl (fun _ => 0))), ((a 64), .inl (g 0, 6, .inl (fun _ => 0))), ((a 65), .inl (g 0, 6, .inl (fun _ => 0)))]) hS.1
      refine vx_callv (vx_runS (As := [.int p2, .int 0, .int 999]) (rest := []) ⟨hx, hb, hml, hown, ht⟩ (k_X11_needRange l hfl D g z0 _ a p2 0 999) (va_cwS 3 ht (gS w_51 w_53 w_31 w_52) rfl rfl rfl (by decide +kernel) (le2 rfl rfl)) ⟨PP.blind, PP.mk' hK hZ hz hAz hS hPc hDc⟩ rfl rfl hl.1 rfl (lv_room (Nat.le_of_ble_eq_true rfl)) dX11_core_20 (le2 rfl rfl)) hS (fun q _ h => hFc q h) hFc (fun q _ h => hFc q h) (fun E ce q9 u t H locs ht1 hvm hw hB hz1 hk1 hS hcell hv9 hcl => ?_) (fun u t H locs ht1 hvm hw hB hz1 hk1 hS => ?_)
      · obtain ⟨rfl, hB⟩ := hB
        rcases hB with hB | hB
        · have c_11 := hB
          exact out0 htab hlocks hS hcell hv9 hcl (fun t _ hF => ⟨(), trivial, ⟨rfl, (Or.inr (Or.inr (Or.inr (Or.inr (Or.inl ⟨c_4, c_5, c_9, c_10, c_11⟩)))))⟩, hF⟩) (fun _ h => h) rfl rfl
        · obtain ⟨c_12, c_13⟩ := hB
          exact out0 htab hlocks hS hcell hv9 hcl (fun t _ hF => ⟨(), trivial, ⟨rfl, (Or.inr (Or.inr (Or.inr (Or.inr (Or.inr ⟨c_4, c_5, c_9, c_10, c_12, c_13⟩)))))⟩, hF⟩) (fun _ h => h) rfl rfl
      · obtain ⟨c_14, c_15⟩ := hw
        have hP := ro1 hP hk1
        refine lv_aload_n hx hb dX11_core_23 rfl (lv_at hl 0 rfl) ?_
        refine va_get (D := D) (ci := 17) (v := .ref (a 11)) (C := RX11) (T := TX11) (N := 11) hx hb ht in_X11 hown hK.1 hP 0 rfl rfl 10 (by decide) (ht _ w_49) (fun _ h9 => h9) rfl dX11_core_24 ?_
        refine va_get (D := D) (ci := 8) (v := .int 0) (C := RX2) (T := TX2) (N := 7) hx hb ht in_X2 hown hK.1 hP 1 rfl rfl 6 (by decide) (ht _ w_50) (fun _ h9 => h9) rfl dX11_core_27 ?_
        refine lv_bipush (v := 6) hx hb dX11_core_30 (by decide) ?_
        refine lv_icmp_lt (tgt := 43) hx hb dX11_core_32 (by decide) (fun c_16 => ?_) (fun c_16 => ?_)
        · refine lv_aload_n hx hb dX11_core_43 rfl (lv_at hl 0 rfl) ?_
          refine va_get (D := D) (ci := 17) (v := .ref (a 11)) (C := RX11) (T := TX11) (N := 11) hx hb ht in_X11 hown hK.1 hP 0 rfl rfl 10 (by decide) (ht _ w_49) (fun _ h9 => h9) rfl dX11_core_44 ?_
          refine lv_iload_n hx hb dX11_core_47 rfl (lv_at hl 1 rfl) ?_
          refine lv_iload_n hx hb dX11_core_48 rfl (lv_at hl 2 rfl) ?_
          refine lv_iload_n hx hb dX11_core_49 rfl (lv_at hl 3 rfl) ?_
          have hPc : va_P D vwCl [((a 11), f_cores a), ((a 63), .inl (g 0, 6, .inl (fun _ => 0))), ((a 64), .inl (g 0, 6, .inl (fun _ => 0))), ((a 65), .inl (g 0, 6, .inl (fun _ => 0)))] _ := hP.sub (ws' := [((a 11), f_cores a), ((a 63), .inl (g 0, 6, .inl (fun _ => 0))), ((a 64), .inl (g 0, 6, .inl (fun _ => 0))), ((a 65), .inl (g 0, 6, .inl (fun _ => 0)))]) [1, 2, 3, 4] rfl
          have hDc : va_D (fun q => z0 ≤ q) [((a 11), f_cores a), ((a 63), .inl (g 0, 6, .inl (fun _ => 0))), ((a 64), .inl (g 0, 6, .inl (fun _ => 0))), ((a 65), .inl (g 0, 6, .inl (fun _ => 0)))] := (hD.to hAz).pick (ws' := [((a 11), f_cores a), ((a 63), .inl (g 0, 6, .inl (fun _ => 0))), ((a 64), .inl (g 0, 6, .inl (fun _ => 0))), ((a 65), .inl (g 0, 6, .inl (fun _ => 0)))]) [1, 2, 3, 4] (by decide) rfl
          have hFc := va_free (wc := [((a 11), f_cores a), ((a 63), .inl (g 0, 6, .inl (fun _ => 0))), ((a 64), .inl (g 0, 6, .inl (fun _ => 0))), ((a 65), .inl (g 0, 6, .inl (fun _ => 0)))]) hD hS hA [1, 2, 3, 4] rfl
          refine va_calli (va_runV (As := [.int p0, .int p1, .int p2]) (rest := []) ⟨hx, hb, hml, hown, ht⟩ (k_X2_add l D g z0 _ a p0 p1 p2) (cwV 3 ht (gV w_155 w_157 w_158 w_159 w_156) rfl rfl rfl (by decide +kernel) (le2 rfl rfl)) ⟨PP.blind, va_recv hK.1 hP (ci := 8) (q0 := 1) rfl rfl, PP.mk' hK hZ hz hAz hS hPc hDc⟩ rfl rfl hl.1 rfl (lv_room (Nat.le_of_ble_eq_true rfl)) dX11_core_50 (le2 rfl rfl)) hS (fun q _ h => hFc q h) hFc (fun r u t H locs ht1 hvm hw hB hz1 hk1 hS => ?_)
          obtain ⟨rfl, hw⟩ := hw
          obtain ⟨hP1, hD1⟩ := hB
          rw [ht1] at hP1
          obtain ⟨hP, hD⟩ := va_join (wr := [((a 0), f_x a)]) (w1 := [((a 11), .inr (8, [.ref (a 63), .ref (a 64), .ref (a 65), .ref (a 66), .ref (a 67), .ref (a 68), .int 1])), ((a 63), .inl (g 0, 6, .inl (upd (fun _ => 0) (0 : Int32).toNatClampNeg p0))), ((a 64), .inl (g 0, 6, .inl (upd (fun _ => 0) (0 : Int32).toNatClampNeg p1))), ((a 65), .inl (g 0, 6, .inl (upd (fun _ => 0) (0 : Int32).toNatClampNeg p2)))]) hP hD [1, 2, 3, 4] [0] rfl rfl (by decide) (by decide) hk1 hFc hP1 hD1
          have hP : va_P D vwCl [((a 0), f_x a), ((a 11), .inr (8, [.ref (a 63), .ref (a 64), .ref (a 65), .ref (a 66), .ref (a 67), .ref (a 68), .int 1])), ((a 63), .inl (g 0, 6, .inl (upd (fun _ => 0) (0 : Int32).toNatClampNeg p0))), ((a 64), .inl (g 0, 6, .inl (upd (fun _ => 0) (0 : Int32).toNatClampNeg p1))), ((a 65), .inl (g 0, 6, .inl (upd (fun _ => 0) (0 : Int32).toNatClampNeg p2)))] H := hP
          have hD : va_D (va_A [((a 0), f_x a), ((a 11), f_cores a), ((a 63), .inl (g 0, 6, .inl (fun _ => 0))), ((a 64), .inl (g 0, 6, .inl (fun _ => 0))), ((a 65), .inl (g 0, 6, .inl (fun _ => 0)))] s.heap.size) [((a 0), f_x a), ((a 11), .inr (8, [.ref (a 63), .ref (a 64), .ref (a 65), .ref (a 66), .ref (a 67), .ref (a 68), .int 1])), ((a 63), .inl (g 0, 6, .inl (upd (fun _ => 0) (0 : Int32).toNatClampNeg p0))), ((a 64), .inl (g 0, 6, .inl (upd (fun _ => 0) (0 : Int32).toNatClampNeg p1))), ((a 65), .inl (g 0, 6, .inl (upd (fun _ => 0) (0 : Int32).toNatClampNeg p2)))] := hD
          have hP9 := hP.sub (ws' := []) [] rfl
          have hD9 := hD.sub (ws' := []) [] (by decide) rfl
          refine vx_ret (W.widen (k := 3) (n := 18) (Nat.le_of_ble_eq_true rfl) (Nat.le_of_ble_eq_true rfl) ?_)
          exact W.iret (v := 0) hx hb hr (fun t ht9 hW9 => ⟨⟨0, (), rfl, ⟨rfl, ⟨c_4, c_5, c_9, c_10, c_14, c_15⟩⟩, ⟨(by rw [ht9]; exact hP9), hD9⟩⟩, hS.F ht9⟩) hS.2.2 dX11_core_53 hlocks
        · exact absurd c_16 (by decide)
