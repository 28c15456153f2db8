theorem w_160 : Cond.methodLink RX11 244 yX11_needEngine ∈ TG := tg (sg_6 _ (List.mem_of_getElem? (i := 167) (by decide +kernel))) (by decide +kernel)
theorem w_161 : Cond.code yX11_needEngine cX11_needEngine 2 none ∈ TG := tg (sg_6 _ (List.mem_of_getElem? (i := 170) (by decide +kernel))) (by decide +kernel)
theorem w_162 : Cond.instanceMethod yX11_needEngine ∈ TG := tg (sg_6 _ (List.mem_of_getElem? (i := 169) (by decide +kernel))) (by decide +kernel)
theorem w_163 : Cond.selects RX11 yX11_needEngine yX11_needEngine ∈ TG := tg (List.mem_append_left _ (List.mem_map.mpr ⟨(yX11_needEngine, 11), List.mem_of_getElem? (i := 50) (by decide +kernel), rfl⟩)) (by decide +kernel)
theorem w_164 : Cond.classLink RX11 267 "java/lang/ArithmeticException" ∈ TG := tg (sg_6 _ (List.mem_of_getElem? (i := 214) (by decide +kernel))) (by decide +kernel)
theorem w_165 : Cond.initialized "java/lang/ArithmeticException" ∈ TG := tg (sg_1 _ (List.mem_of_getElem? (i := 43) (by decide +kernel))) (by decide +kernel)
theorem w_166 : Cond.fieldLink RX11 78 "StuckatBench" "memory" "LStuckatBench$Memory;" ∈ TG := tg (sg_3 _ (List.mem_of_getElem? (i := 85) (by decide +kernel))) (by decide +kernel)
theorem in_X5 : ∀ w ∈ u_ws RX5 TX5 9, w ∈ TG := fun w h => tg (List.mem_append_right _ ((goodIn_r (big := tables_1) _ [487, 489, 491, 493, 495, 497, 499, 501, 503] (by decide +kernel) (by decide +kernel) w h).1)) ((List.all_eq_true.mp (by decide +kernel : (u_ws RX5 TX5 9).all goodWord = true)) w h)
theorem w_167 : Cond.fieldLink RX11 482 "StuckatBench$Memory" "typed" "I" ∈ TG := tg (sg_3 _ (List.mem_of_getElem? (i := 0) (by decide +kernel))) (by decide +kernel)
theorem w_168 : Cond.methodLink RX10 212 yX10_loadRows ∈ TG := tg (sg_3 _ (List.mem_of_getElem? (i := 159) (by decide +kernel))) (by decide +kernel)
theorem w_169 : Cond.methodLink RX10 216 yX10_runGood ∈ TG := tg (sg_3 _ (List.mem_of_getElem? (i := 175) (by decide +kernel))) (by decide +kernel)
theorem w_170 : Cond.fieldLink RX10 47 "StuckatBench$Words" "book" "LStuckatBench$Faults;" ∈ TG := tg (sg_2 _ (List.mem_of_getElem? (i := 51) (by decide +kernel))) (by decide +kernel)
theorem w_171 : Cond.fieldLink RX10 222 "StuckatBench$Faults" "count" "I" ∈ TG := tg (sg_1 _ (List.mem_of_getElem? (i := 207) (by decide +kernel))) (by decide +kernel)
theorem w_172 : Cond.methodLink RX11 276 yX10_findAll ∈ TG := tg (sg_3 _ (List.mem_of_getElem? (i := 155) (by decide +kernel))) (by decide +kernel)
theorem w_173 : Cond.code yX10_findAll cX10_findAll 3 none ∈ TG := tg (sg_3 _ (List.mem_of_getElem? (i := 158) (by decide +kernel))) (by decide +kernel)
theorem w_174 : Cond.instanceMethod yX10_findAll ∈ TG := tg (sg_3 _ (List.mem_of_getElem? (i := 156) (by decide +kernel))) (by decide +kernel)
theorem w_175 : Cond.selects RX10 yX10_findAll yX10_findAll ∈ TG := tg (sg_3 _ (List.mem_of_getElem? (i := 157) (by decide +kernel))) (by decide +kernel)
theorem w_176 : Cond.fieldLink RX7 50 "StuckatBench$Faults" "stuck" "I" ∈ TG := tg (sg_1 _ (List.mem_of_getElem? (i := 213) (by decide +kernel))) (by decide +kernel)
theorem w_177 : Cond.fieldLink RX7 27 "StuckatBench$Patterns" "count" "I" ∈ TG := tg (sg_2 _ (List.mem_of_getElem? (i := 27) (by decide +kernel))) (by decide +kernel)
theorem w_178 : Cond.methodLink RX11 471 yX7_putInOrder ∈ TG := tg (sg_8 _ (List.mem_of_getElem? (i := 55) (by decide +kernel))) (by decide +kernel)
theorem w_179 : Cond.code yX7_putInOrder cX7_putInOrder 6 none ∈ TG := tg (sg_8 _ (List.mem_of_getElem? (i := 58) (by decide +kernel))) (by decide +kernel)
theorem w_180 : Cond.instanceMethod yX7_putInOrder ∈ TG := tg (sg_8 _ (List.mem_of_getElem? (i := 56) (by decide +kernel))) (by decide +kernel)
theorem w_181 : Cond.selects RX7 yX7_putInOrder yX7_putInOrder ∈ TG := tg (sg_8 _ (List.mem_of_getElem? (i := 57) (by decide +kernel))) (by decide +kernel)
theorem w_182 : Cond.initialized RX7 ∈ TG := tg (sg_1 _ (List.mem_of_getElem? (i := 5) (by decide +kernel))) (by decide +kernel)
theorem w_183 : Cond.methodLink RX11 200 yX11_needPattern ∈ TG := tg (sg_6 _ (List.mem_of_getElem? (i := 97) (by decide +kernel))) (by decide +kernel)
theorem w_184 : Cond.code yX11_needPattern cX11_needPattern 2 none ∈ TG := tg (sg_6 _ (List.mem_of_getElem? (i := 100) (by decide +kernel))) (by decide +kernel)
theorem w_185 : Cond.instanceMethod yX11_needPattern ∈ TG := tg (sg_6 _ (List.mem_of_getElem? (i := 99) (by decide +kernel))) (by decide +kernel)
theorem w_186 : Cond.selects RX11 yX11_needPattern yX11_needPattern ∈ TG := tg (List.mem_append_left _ (List.mem_map.mpr ⟨(yX11_needPattern, 11), List.mem_of_getElem? (i := 48) (by decide +kernel), rfl⟩)) (by decide +kernel)
theorem w_187 : Cond.methodLink RX11 145 yX6_pinsOfKind ∈ TG := tg (sg_5 _ (List.mem_of_getElem? (i := 193) (by decide +kernel))) (by decide +kernel)
theorem w_188 : Cond.code yX6_pinsOfKind cX6_pinsOfKind 1 (some .int) ∈ TG := tg (sg_4 _ (List.mem_of_getElem? (i := 213) (by decide +kernel))) (by decide +kernel)
theorem w_189 : Cond.static yX6_pinsOfKind ∈ TG := tg (sg_4 _ (List.mem_of_getElem? (i := 212) (by decide +kernel))) (by decide +kernel)
theorem w_190 : Cond.methodLink RX11 515 yX11_needWire ∈ TG := tg (sg_8 _ (List.mem_of_getElem? (i := 165) (by decide +kernel))) (by decide +kernel)
theorem w_191 : Cond.code yX11_needWire cX11_needWire 2 none ∈ TG := tg (sg_8 _ (List.mem_of_getElem? (i := 168) (by decide +kernel))) (by decide +kernel)
theorem w_192 : Cond.instanceMethod yX11_needWire ∈ TG := tg (sg_8 _ (List.mem_of_getElem? (i := 167) (by decide +kernel))) (by decide +kernel)
theorem w_193 : Cond.selects RX11 yX11_needWire yX11_needWire ∈ TG := tg (List.mem_append_left _ (List.mem_map.mpr ⟨(yX11_needWire, 11), List.mem_of_getElem? (i := 64) (by decide +kernel), rfl⟩)) (by decide +kernel)
theorem w_194 : Cond.fieldLink RX10 40 "StuckatBench$Words" "wayCount" "[I" ∈ TG := tg (sg_2 _ (List.mem_of_getElem? (i := 65) (by decide +kernel))) (by decide +kernel)
theorem w_195 : Cond.methodLink RX10 55 yJ7_fill_53178 ∈ TG := tg (sg_2 _ (List.mem_of_getElem? (i := 49) (by decide +kernel))) (by decide +kernel)
theorem w_196 : Cond.fieldLink RX10 79 "StuckatBench$Net" "sources" "I" ∈ TG := tg (sg_1 _ (List.mem_of_getElem? (i := 114) (by decide +kernel))) (by decide +kernel)
theorem w_197 : Cond.methodLink RX10 223 yX10_wordsOfWays ∈ TG := tg (sg_4 _ (List.mem_of_getElem? (i := 235) (by decide +kernel))) (by decide +kernel)
theorem w_198 : Cond.code yX10_wordsOfWays cX10_wordsOfWays 1 (some .int) ∈ TG := tg (sg_4 _ (List.mem_of_getElem? (i := 238) (by decide +kernel))) (by decide +kernel)
theorem w_199 : Cond.instanceMethod yX10_wordsOfWays ∈ TG := tg (sg_4 _ (List.mem_of_getElem? (i := 236) (by decide +kernel))) (by decide +kernel)
theorem w_200 : Cond.selects RX10 yX10_wordsOfWays yX10_wordsOfWays ∈ TG := tg (sg_4 _ (List.mem_of_getElem? (i := 237) (by decide +kernel))) (by decide +kernel)
theorem w_201 : Cond.methodLink RX10 227 yX10_loadWays ∈ TG := tg (sg_4 _ (List.mem_of_getElem? (i := 239) (by decide +kernel))) (by decide +kernel)
theorem w_202 : Cond.code yX10_loadWays cX10_loadWays 4 none ∈ TG := tg (sg_5 _ (List.mem_of_getElem? (i := 2) (by decide +kernel))) (by decide +kernel)
theorem w_203 : Cond.instanceMethod yX10_loadWays ∈ TG := tg (sg_5 _ (List.mem_of_getElem? (i := 1) (by decide +kernel))) (by decide +kernel)
theorem w_204 : Cond.selects RX10 yX10_loadWays yX10_loadWays ∈ TG := tg (List.mem_append_left _ (List.mem_map.mpr ⟨(yX10_loadWays, 17), List.mem_of_getElem? (i := 33) (by decide +kernel), rfl⟩)) (by decide +kernel)
theorem w_205 : Cond.fieldLink RX10 242 "StuckatBench$Faults" "stuck" "I" ∈ TG := tg (sg_1 _ (List.mem_of_getElem? (i := 214) (by decide +kernel))) (by decide +kernel)
theorem w_206 : Cond.methodLink RX11 423 yX10_countAllWays ∈ TG := tg (sg_4 _ (List.mem_of_getElem? (i := 231) (by decide +kernel))) (by decide +kernel)
theorem w_207 : Cond.code yX10_countAllWays cX10_countAllWays 3 none ∈ TG := tg (sg_4 _ (List.mem_of_getElem? (i := 234) (by decide +kernel))) (by decide +kernel)
theorem w_208 : Cond.instanceMethod yX10_countAllWays ∈ TG := tg (sg_4 _ (List.mem_of_getElem? (i := 232) (by decide +kernel))) (by decide +kernel)
theorem w_209 : Cond.selects RX10 yX10_countAllWays yX10_countAllWays ∈ TG := tg (sg_4 _ (List.mem_of_getElem? (i := 233) (by decide +kernel))) (by decide +kernel)
theorem dX10_countAllWays_0 : decode cX10_countAllWays 0 = .ok (.aload_n 0, 1) := by decide +kernel
theorem dX10_countAllWays_1 : decode cX10_countAllWays 1 = .ok (.getfield 40, 3) := by decide +kernel
theorem dX10_countAllWays_4 : decode cX10_countAllWays 4 = .ok (.iconst 0, 1) := by decide +kernel
theorem dX10_countAllWays_5 : decode cX10_countAllWays 5 = .ok (.invokestatic 55, 3) := by decide +kernel
theorem dX10_countAllWays_8 : decode cX10_countAllWays 8 = .ok (.iconst 0, 1) := by decide +kernel
theorem dX10_countAllWays_9 : decode cX10_countAllWays 9 = .ok (.istore_n 1, 1) := by decide +kernel
theorem dX10_countAllWays_10 : decode cX10_countAllWays 10 = .ok (.iload_n 1, 1) := by decide +kernel
theorem dX10_countAllWays_11 : decode cX10_countAllWays 11 = .ok (.aload_n 0, 1) := by decide +kernel
theorem dX10_countAllWays_12 : decode cX10_countAllWays 12 = .ok (.invokevirtual 223, 3) := by decide +kernel
theorem dX10_countAllWays_15 : decode cX10_countAllWays 15 = .ok (.if_icmp .ge 65, 3) := by decide +kernel
theorem dX10_countAllWays_18 : decode cX10_countAllWays 18 = .ok (.aload_n 0, 1) := by decide +kernel
theorem dX10_countAllWays_19 : decode cX10_countAllWays 19 = .ok (.iload_n 1, 1) := by decide +kernel
theorem dX10_countAllWays_20 : decode cX10_countAllWays 20 = .ok (.invokevirtual 227, 3) := by decide +kernel
theorem dX10_countAllWays_23 : decode cX10_countAllWays 23 = .ok (.aload_n 0, 1) := by decide +kernel
theorem dX10_countAllWays_24 : decode cX10_countAllWays 24 = .ok (.invokevirtual 216, 3) := by decide +kernel
theorem dX10_countAllWays_27 : decode cX10_countAllWays 27 = .ok (.iconst 0, 1) := by decide +kernel
theorem dX10_countAllWays_28 : decode cX10_countAllWays 28 = .ok (.istore_n 2, 1) := by decide +kernel
theorem dX10_countAllWays_29 : decode cX10_countAllWays 29 = .ok (.iload_n 2, 1) := by decide +kernel
theorem dX10_countAllWays_30 : decode cX10_countAllWays 30 = .ok (.aload_n 0, 1) := by decide +kernel
theorem dX10_countAllWays_31 : decode cX10_countAllWays 31 = .ok (.getfield 47, 3) := by decide +kernel
theorem dX10_countAllWays_34 : decode cX10_countAllWays 34 = .ok (.getfield 242, 3) := by decide +kernel
theorem dX10_countAllWays_37 : decode cX10_countAllWays 37 = .ok (.if_icmp .ge 37, 3) := by decide +kernel
theorem dX10_countAllWays_40 : decode cX10_countAllWays 40 = .ok (.aload_n 0, 1) := by decide +kernel
theorem dX10_countAllWays_41 : decode cX10_countAllWays 41 = .ok (.getfield 47, 3) := by decide +kernel
theorem dX10_countAllWays_44 : decode cX10_countAllWays 44 = .ok (.iload_n 2, 1) := by decide +kernel
theorem dX10_countAllWays_45 : decode cX10_countAllWays 45 = .ok (.invokevirtual 245, 3) := by decide +kernel
theorem dX10_countAllWays_48 : decode cX10_countAllWays 48 = .ok (.ifCond .eq 20, 3) := by decide +kernel
theorem dX10_countAllWays_51 : decode cX10_countAllWays 51 = .ok (.aload_n 0, 1) := by decide +kernel
theorem dX10_countAllWays_52 : decode cX10_countAllWays 52 = .ok (.getfield 40, 3) := by decide +kernel
theorem dX10_countAllWays_55 : decode cX10_countAllWays 55 = .ok (.iload_n 2, 1) := by decide +kernel
theorem dX10_countAllWays_56 : decode cX10_countAllWays 56 = .ok (.dup2, 1) := by decide +kernel
theorem dX10_countAllWays_57 : decode cX10_countAllWays 57 = .ok (.iaload, 1) := by decide +kernel
theorem dX10_countAllWays_58 : decode cX10_countAllWays 58 = .ok (.aload_n 0, 1) := by decide +kernel
theorem dX10_countAllWays_59 : decode cX10_countAllWays 59 = .ok (.iload_n 2, 1) := by decide +kernel
theorem dX10_countAllWays_60 : decode cX10_countAllWays 60 = .ok (.invokevirtual 219, 3) := by decide +kernel
theorem dX10_countAllWays_63 : decode cX10_countAllWays 63 = .ok (.invokestatic 239, 3) := by decide +kernel
theorem dX10_countAllWays_66 : decode cX10_countAllWays 66 = .ok (.iadd, 1) := by decide +kernel
theorem dX10_countAllWays_67 : decode cX10_countAllWays 67 = .ok (.iastore, 1) := by decide +kernel
theorem dX10_countAllWays_68 : decode cX10_countAllWays 68 = .ok (.iinc 2 1, 3) := by decide +kernel
theorem dX10_countAllWays_71 : decode cX10_countAllWays 71 = .ok (.goto (-42), 3) := by decide +kernel
theorem dX10_countAllWays_74 : decode cX10_countAllWays 74 = .ok (.iinc 1 1, 3) := by decide +kernel
theorem dX10_countAllWays_77 : decode cX10_countAllWays 77 = .ok (.goto (-67), 3) := by decide +kernel
theorem dX10_countAllWays_80 : decode cX10_countAllWays 80 = .ok (.return_, 1) := by decide +kernel
theorem dX10_findAll_0 : decode cX10_findAll 0 = .ok (.aload_n 0, 1) := by decide +kernel
theorem dX10_findAll_1 : decode cX10_findAll 1 = .ok (.aload_n 1, 1) := by decide +kernel
theorem dX10_findAll_2 : decode cX10_findAll 2 = .ok (.invokevirtual 212, 3) := by decide +kernel
theorem dX10_findAll_5 : decode cX10_findAll 5 = .ok (.aload_n 0, 1) := by decide +kernel
theorem dX10_findAll_6 : decode cX10_findAll 6 = .ok (.invokevirtual 216, 3) := by decide +kernel
theorem dX10_findAll_9 : decode cX10_findAll 9 = .ok (.iconst 0, 1) := by decide +kernel
theorem dX10_findAll_10 : decode cX10_findAll 10 = .ok (.istore_n 2, 1) := by decide +kernel
theorem dX10_findAll_11 : decode cX10_findAll 11 = .ok (.iload_n 2, 1) := by decide +kernel
theorem dX10_findAll_12 : decode cX10_findAll 12 = .ok (.aload_n 0, 1) := by decide +kernel
theorem dX10_findAll_13 : decode cX10_findAll 13 = .ok (.getfield 47, 3) := by decide +kernel
theorem dX10_findAll_16 : decode cX10_findAll 16 = .ok (.getfield 222, 3) := by decide +kernel
theorem dX10_findAll_19 : decode cX10_findAll 19 = .ok (.if_icmp .ge 20, 3) := by decide +kernel
theorem dX10_findAll_22 : decode cX10_findAll 22 = .ok (.aload_n 0, 1) := by decide +kernel
theorem dX10_findAll_23 : decode cX10_findAll 23 = .ok (.getfield 37, 3) := by decide +kernel
theorem dX10_findAll_26 : decode cX10_findAll 26 = .ok (.iload_n 2, 1) := by decide +kernel
theorem dX10_findAll_27 : decode cX10_findAll 27 = .ok (.aload_n 0, 1) := by decide +kernel
theorem dX10_findAll_28 : decode cX10_findAll 28 = .ok (.iload_n 2, 1) := by decide +kernel
theorem dX10_findAll_29 : decode cX10_findAll 29 = .ok (.invokevirtual 219, 3) := by decide +kernel
theorem dX10_findAll_32 : decode cX10_findAll 32 = .ok (.lastore, 1) := by decide +kernel
theorem dX10_findAll_33 : decode cX10_findAll 33 = .ok (.iinc 2 1, 3) := by decide +kernel
theorem dX10_findAll_36 : decode cX10_findAll 36 = .ok (.goto (-25), 3) := by decide +kernel
theorem dX10_findAll_39 : decode cX10_findAll 39 = .ok (.return_, 1) := by decide +kernel
theorem dX10_loadWays_0 : decode cX10_loadWays 0 = .ok (.aload_n 0, 1) := by decide +kernel
theorem dX10_loadWays_1 : decode cX10_loadWays 1 = .ok (.aload_n 0, 1) := by decide +kernel
theorem dX10_loadWays_2 : decode cX10_loadWays 2 = .ok (.getfield 43, 3) := by decide +kernel
theorem dX10_loadWays_5 : decode cX10_loadWays 5 = .ok (.getfield 79, 3) := by decide +kernel
theorem dX10_loadWays_8 : decode cX10_loadWays 8 = .ok (.bipush 6, 2) := by decide +kernel
theorem dX10_loadWays_10 : decode cX10_loadWays 10 = .ok (.if_icmp .lt 9, 3) := by decide +kernel
theorem dX10_loadWays_13 : decode cX10_loadWays 13 = .ok (.ldc2_w 61, 3) := by decide +kernel
theorem dX10_loadWays_16 : decode cX10_loadWays 16 = .ok (.goto 16, 3) := by decide +kernel
theorem dX10_loadWays_19 : decode cX10_loadWays 19 = .ok (.lconst 1, 1) := by decide +kernel
theorem dX10_loadWays_20 : decode cX10_loadWays 20 = .ok (.iconst 1, 1) := by decide +kernel
theorem dX10_loadWays_21 : decode cX10_loadWays 21 = .ok (.aload_n 0, 1) := by decide +kernel
theorem dX10_loadWays_22 : decode cX10_loadWays 22 = .ok (.getfield 43, 3) := by decide +kernel
theorem dX10_loadWays_25 : decode cX10_loadWays 25 = .ok (.getfield 79, 3) := by decide +kernel
theorem dX10_loadWays_28 : decode cX10_loadWays 28 = .ok (.ishl, 1) := by decide +kernel
theorem dX10_loadWays_29 : decode cX10_loadWays 29 = .ok (.lshl, 1) := by decide +kernel
theorem dX10_loadWays_30 : decode cX10_loadWays 30 = .ok (.lconst 1, 1) := by decide +kernel
theorem dX10_loadWays_31 : decode cX10_loadWays 31 = .ok (.lsub, 1) := by decide +kernel
theorem dX10_loadWays_32 : decode cX10_loadWays 32 = .ok (.putfield 63, 3) := by decide +kernel
theorem dX10_loadWays_35 : decode cX10_loadWays 35 = .ok (.iconst 0, 1) := by decide +kernel
theorem dX10_loadWays_36 : decode cX10_loadWays 36 = .ok (.istore_n 2, 1) := by decide +kernel
theorem dX10_loadWays_37 : decode cX10_loadWays 37 = .ok (.iload_n 2, 1) := by decide +kernel
theorem dX10_loadWays_38 : decode cX10_loadWays 38 = .ok (.aload_n 0, 1) := by decide +kernel
theorem dX10_loadWays_39 : decode cX10_loadWays 39 = .ok (.getfield 43, 3) := by decide +kernel
theorem dX10_loadWays_42 : decode cX10_loadWays 42 = .ok (.getfield 79, 3) := by decide +kernel
theorem dX10_loadWays_45 : decode cX10_loadWays 45 = .ok (.if_icmp .ge 69, 3) := by decide +kernel
theorem dX10_loadWays_48 : decode cX10_loadWays 48 = .ok (.aload_n 0, 1) := by decide +kernel
theorem dX10_loadWays_49 : decode cX10_loadWays 49 = .ok (.getfield 43, 3) := by decide +kernel
theorem dX10_loadWays_52 : decode cX10_loadWays 52 = .ok (.getfield 79, 3) := by decide +kernel
theorem dX10_loadWays_55 : decode cX10_loadWays 55 = .ok (.iconst 1, 1) := by decide +kernel
theorem dX10_loadWays_56 : decode cX10_loadWays 56 = .ok (.isub, 1) := by decide +kernel
theorem dX10_loadWays_57 : decode cX10_loadWays 57 = .ok (.iload_n 2, 1) := by decide +kernel
theorem dX10_loadWays_58 : decode cX10_loadWays 58 = .ok (.isub, 1) := by decide +kernel
theorem dX10_loadWays_59 : decode cX10_loadWays 59 = .ok (.istore_n 3, 1) := by decide +kernel
theorem dX10_loadWays_60 : decode cX10_loadWays 60 = .ok (.iload_n 3, 1) := by decide +kernel
theorem dX10_loadWays_61 : decode cX10_loadWays 61 = .ok (.bipush 6, 2) := by decide +kernel
theorem dX10_loadWays_63 : decode cX10_loadWays 63 = .ok (.if_icmp .ge 32, 3) := by decide +kernel
theorem dX10_loadWays_66 : decode cX10_loadWays 66 = .ok (.aload_n 0, 1) := by decide +kernel
theorem dX10_loadWays_67 : decode cX10_loadWays 67 = .ok (.getfield 15, 3) := by decide +kernel
theorem dX10_loadWays_70 : decode cX10_loadWays 70 = .ok (.iload_n 2, 1) := by decide +kernel
theorem dX10_loadWays_71 : decode cX10_loadWays 71 = .ok (.getstatic 94, 3) := by decide +kernel
theorem dX10_loadWays_74 : decode cX10_loadWays 74 = .ok (.iload_n 3, 1) := by decide +kernel
theorem dX10_loadWays_75 : decode cX10_loadWays 75 = .ok (.laload, 1) := by decide +kernel
theorem dX10_loadWays_76 : decode cX10_loadWays 76 = .ok (.lastore, 1) := by decide +kernel
theorem dX10_loadWays_77 : decode cX10_loadWays 77 = .ok (.aload_n 0, 1) := by decide +kernel
theorem dX10_loadWays_78 : decode cX10_loadWays 78 = .ok (.getfield 9, 3) := by decide +kernel
theorem dX10_loadWays_81 : decode cX10_loadWays 81 = .ok (.iload_n 2, 1) := by decide +kernel
theorem dX10_loadWays_82 : decode cX10_loadWays 82 = .ok (.getstatic 94, 3) := by decide +kernel
theorem dX10_loadWays_85 : decode cX10_loadWays 85 = .ok (.iload_n 3, 1) := by decide +kernel
theorem dX10_loadWays_86 : decode cX10_loadWays 86 = .ok (.laload, 1) := by decide +kernel
theorem dX10_loadWays_87 : decode cX10_loadWays 87 = .ok (.ldc2_w 61, 3) := by decide +kernel
theorem dX10_loadWays_90 : decode cX10_loadWays 90 = .ok (.lxor, 1) := by decide +kernel
theorem dX10_loadWays_91 : decode cX10_loadWays 91 = .ok (.lastore, 1) := by decide +kernel
theorem dX10_loadWays_92 : decode cX10_loadWays 92 = .ok (.goto 16, 3) := by decide +kernel
theorem dX10_loadWays_95 : decode cX10_loadWays 95 = .ok (.aload_n 0, 1) := by decide +kernel
theorem dX10_loadWays_96 : decode cX10_loadWays 96 = .ok (.iload_n 2, 1) := by decide +kernel
theorem dX10_loadWays_97 : decode cX10_loadWays 97 = .ok (.iload_n 1, 1) := by decide +kernel
theorem dX10_loadWays_98 : decode cX10_loadWays 98 = .ok (.iload_n 3, 1) := by decide +kernel
theorem dX10_loadWays_99 : decode cX10_loadWays 99 = .ok (.bipush 6, 2) := by decide +kernel
theorem dX10_loadWays_101 : decode cX10_loadWays 101 = .ok (.isub, 1) := by decide +kernel
theorem dX10_loadWays_102 : decode cX10_loadWays 102 = .ok (.ishr, 1) := by decide +kernel
theorem dX10_loadWays_103 : decode cX10_loadWays 103 = .ok (.iconst 1, 1) := by decide +kernel
theorem dX10_loadWays_104 : decode cX10_loadWays 104 = .ok (.iand, 1) := by decide +kernel
theorem dX10_loadWays_105 : decode cX10_loadWays 105 = .ok (.invokevirtual 97, 3) := by decide +kernel
theorem dX10_loadWays_108 : decode cX10_loadWays 108 = .ok (.iinc 2 1, 3) := by decide +kernel
theorem dX10_loadWays_111 : decode cX10_loadWays 111 = .ok (.goto (-74), 3) := by decide +kernel
theorem dX10_loadWays_114 : decode cX10_loadWays 114 = .ok (.return_, 1) := by decide +kernel
theorem dX10_wordsOfWays_0 : decode cX10_wordsOfWays 0 = .ok (.aload_n 0, 1) := by decide +kernel
theorem dX10_wordsOfWays_1 : decode cX10_wordsOfWays 1 = .ok (.getfield 43, 3) := by decide +kernel
theorem dX10_wordsOfWays_4 : decode cX10_wordsOfWays 4 = .ok (.getfield 79, 3) := by decide +kernel
theorem dX10_wordsOfWays_7 : decode cX10_wordsOfWays 7 = .ok (.bipush 6, 2) := by decide +kernel
theorem dX10_wordsOfWays_9 : decode cX10_wordsOfWays 9 = .ok (.if_icmp .le 18, 3) := by decide +kernel
theorem dX10_wordsOfWays_12 : decode cX10_wordsOfWays 12 = .ok (.iconst 1, 1) := by decide +kernel
theorem dX10_wordsOfWays_13 : decode cX10_wordsOfWays 13 = .ok (.aload_n 0, 1) := by decide +kernel
theorem dX10_wordsOfWays_14 : decode cX10_wordsOfWays 14 = .ok (.getfield 43, 3) := by decide +kernel
theorem dX10_wordsOfWays_17 : decode cX10_wordsOfWays 17 = .ok (.getfield 79, 3) := by decide +kernel
theorem dX10_wordsOfWays_20 : decode cX10_wordsOfWays 20 = .ok (.bipush 6, 2) := by decide +kernel
theorem dX10_wordsOfWays_22 : decode cX10_wordsOfWays 22 = .ok (.isub, 1) := by decide +kernel
theorem dX10_wordsOfWays_23 : decode cX10_wordsOfWays 23 = .ok (.ishl, 1) := by decide +kernel
theorem dX10_wordsOfWays_24 : decode cX10_wordsOfWays 24 = .ok (.goto 4, 3) := by decide +kernel
theorem dX10_wordsOfWays_27 : decode cX10_wordsOfWays 27 = .ok (.iconst 1, 1) := by decide +kernel
theorem dX10_wordsOfWays_28 : decode cX10_wordsOfWays 28 = .ok (.ireturn, 1) := by decide +kernel
theorem dX11_coverage_0 : decode cX11_coverage 0 = .ok (.aload_n 0, 1) := by decide +kernel
theorem dX11_coverage_1 : decode cX11_coverage 1 = .ok (.iload_n 1, 1) := by decide +kernel
theorem dX11_coverage_2 : decode cX11_coverage 2 = .ok (.invokevirtual 244, 3) := by decide +kernel
theorem dX11_coverage_5 : decode cX11_coverage 5 = .ok (.aload_n 0, 1) := by decide +kernel
theorem dX11_coverage_6 : decode cX11_coverage 6 = .ok (.getfield 21, 3) := by decide +kernel
theorem dX11_coverage_9 : decode cX11_coverage 9 = .ok (.invokevirtual 225, 3) := by decide +kernel
theorem dX11_coverage_12 : decode cX11_coverage 12 = .ok (.istore_n 2, 1) := by decide +kernel
theorem dX11_coverage_13 : decode cX11_coverage 13 = .ok (.iload_n 2, 1) := by decide +kernel
theorem dX11_coverage_14 : decode cX11_coverage 14 = .ok (.ifCond .ne 11, 3) := by decide +kernel
theorem dX11_coverage_17 : decode cX11_coverage 17 = .ok (.new 267, 3) := by decide +kernel
theorem dX11_coverage_20 : decode cX11_coverage 20 = .ok (.dup, 1) := by decide +kernel
theorem dX11_coverage_21 : decode cX11_coverage 21 = .ok (.invokespecial 269, 3) := by decide +kernel
theorem dX11_coverage_24 : decode cX11_coverage 24 = .ok (.athrow, 1) := by decide +kernel
theorem dX11_coverage_25 : decode cX11_coverage 25 = .ok (.aload_n 0, 1) := by decide +kernel
theorem dX11_coverage_26 : decode cX11_coverage 26 = .ok (.iload_n 1, 1) := by decide +kernel
theorem dX11_coverage_27 : decode cX11_coverage 27 = .ok (.invokevirtual 270, 3) := by decide +kernel
theorem dX11_coverage_30 : decode cX11_coverage 30 = .ok (.aload_n 0, 1) := by decide +kernel
theorem dX11_coverage_31 : decode cX11_coverage 31 = .ok (.invokevirtual 273, 3) := by decide +kernel
theorem dX11_coverage_34 : decode cX11_coverage 34 = .ok (.i2f, 1) := by decide +kernel
theorem dX11_coverage_35 : decode cX11_coverage 35 = .ok (.iload_n 2, 1) := by decide +kernel
theorem dX11_coverage_36 : decode cX11_coverage 36 = .ok (.i2f, 1) := by decide +kernel
theorem dX11_coverage_37 : decode cX11_coverage 37 = .ok (.fdiv, 1) := by decide +kernel
theorem dX11_coverage_38 : decode cX11_coverage 38 = .ok (.freturn, 1) := by decide +kernel
theorem dX11_cycles_0 : decode cX11_cycles 0 = .ok (.aload_n 0, 1) := by decide +kernel
theorem dX11_cycles_1 : decode cX11_cycles 1 = .ok (.getfield 10, 3) := by decide +kernel
theorem dX11_cycles_4 : decode cX11_cycles 4 = .ok (.getfield 453, 3) := by decide +kernel
theorem dX11_cycles_7 : decode cX11_cycles 7 = .ok (.iconst 1, 1) := by decide +kernel
theorem dX11_cycles_8 : decode cX11_cycles 8 = .ok (.iadd, 1) := by decide +kernel
theorem dX11_cycles_9 : decode cX11_cycles 9 = .ok (.aload_n 0, 1) := by decide +kernel
theorem dX11_cycles_10 : decode cX11_cycles 10 = .ok (.getfield 28, 3) := by decide +kernel
theorem dX11_cycles_13 : decode cX11_cycles 13 = .ok (.getfield 103, 3) := by decide +kernel
theorem dX11_cycles_16 : decode cX11_cycles 16 = .ok (.imul, 1) := by decide +kernel
theorem dX11_cycles_17 : decode cX11_cycles 17 = .ok (.aload_n 0, 1) := by decide +kernel
theorem dX11_cycles_18 : decode cX11_cycles 18 = .ok (.getfield 10, 3) := by decide +kernel
theorem dX11_cycles_21 : decode cX11_cycles 21 = .ok (.getfield 453, 3) := by decide +kernel
theorem dX11_cycles_24 : decode cX11_cycles 24 = .ok (.iadd, 1) := by decide +kernel
theorem dX11_cycles_25 : decode cX11_cycles 25 = .ok (.ireturn, 1) := by decide +kernel
theorem dX11_data_0 : decode cX11_data 0 = .ok (.aload_n 0, 1) := by decide +kernel
theorem dX11_data_1 : decode cX11_data 1 = .ok (.iload_n 1, 1) := by decide +kernel
theorem dX11_data_2 : decode cX11_data 2 = .ok (.invokevirtual 149, 3) := by decide +kernel
theorem dX11_data_5 : decode cX11_data 5 = .ok (.aload_n 0, 1) := by decide +kernel
theorem dX11_data_6 : decode cX11_data 6 = .ok (.iload_n 2, 1) := by decide +kernel
theorem dX11_data_7 : decode cX11_data 7 = .ok (.invokevirtual 149, 3) := by decide +kernel
theorem dX11_data_10 : decode cX11_data 10 = .ok (.aload_n 0, 1) := by decide +kernel
theorem dX11_data_11 : decode cX11_data 11 = .ok (.invokevirtual 135, 3) := by decide +kernel
theorem dX11_data_14 : decode cX11_data 14 = .ok (.aload_n 0, 1) := by decide +kernel
theorem dX11_data_15 : decode cX11_data 15 = .ok (.getfield 10, 3) := by decide +kernel
theorem dX11_data_18 : decode cX11_data 18 = .ok (.getfield 156, 3) := by decide +kernel
theorem dX11_data_21 : decode cX11_data 21 = .ok (.iload_n 1, 1) := by decide +kernel
theorem dX11_data_22 : decode cX11_data 22 = .ok (.caload, 1) := by decide +kernel
theorem dX11_data_23 : decode cX11_data 23 = .ok (.bipush 102, 2) := by decide +kernel
theorem dX11_data_25 : decode cX11_data 25 = .ok (.if_icmp .eq 11, 3) := by decide +kernel
theorem dX11_data_28 : decode cX11_data 28 = .ok (.new 125, 3) := by decide +kernel
theorem dX11_data_31 : decode cX11_data 31 = .ok (.dup, 1) := by decide +kernel
theorem dX11_data_32 : decode cX11_data 32 = .ok (.invokespecial 127, 3) := by decide +kernel
theorem dX11_data_35 : decode cX11_data 35 = .ok (.athrow, 1) := by decide +kernel
theorem dX11_data_36 : decode cX11_data 36 = .ok (.aload_n 0, 1) := by decide +kernel
theorem dX11_data_37 : decode cX11_data 37 = .ok (.getfield 10, 3) := by decide +kernel
theorem dX11_data_40 : decode cX11_data 40 = .ok (.getfield 159, 3) := by decide +kernel
theorem dX11_data_43 : decode cX11_data 43 = .ok (.iload_n 1, 1) := by decide +kernel
theorem dX11_data_44 : decode cX11_data 44 = .ok (.iaload, 1) := by decide +kernel
theorem dX11_data_45 : decode cX11_data 45 = .ok (.istore_n 3, 1) := by decide +kernel
theorem dX11_data_46 : decode cX11_data 46 = .ok (.aload_n 0, 1) := by decide +kernel
theorem dX11_data_47 : decode cX11_data 47 = .ok (.getfield 10, 3) := by decide +kernel
theorem dX11_data_50 : decode cX11_data 50 = .ok (.getfield 159, 3) := by decide +kernel
theorem dX11_data_53 : decode cX11_data 53 = .ok (.iload_n 1, 1) := by decide +kernel
theorem dX11_data_54 : decode cX11_data 54 = .ok (.iload_n 2, 1) := by decide +kernel
theorem dX11_data_55 : decode cX11_data 55 = .ok (.iastore, 1) := by decide +kernel
theorem dX11_data_56 : decode cX11_data 56 = .ok (.iload_n 3, 1) := by decide +kernel
theorem dX11_data_57 : decode cX11_data 57 = .ok (.ireturn, 1) := by decide +kernel
theorem dX11_eraseMarch_0 : decode cX11_eraseMarch 0 = .ok (.aload_n 0, 1) := by decide +kernel
theorem dX11_eraseMarch_1 : decode cX11_eraseMarch 1 = .ok (.getfield 78, 3) := by decide +kernel
theorem dX11_eraseMarch_4 : decode cX11_eraseMarch 4 = .ok (.getfield 482, 3) := by decide +kernel
theorem dX11_eraseMarch_7 : decode cX11_eraseMarch 7 = .ok (.istore_n 1, 1) := by decide +kernel
theorem dX11_eraseMarch_8 : decode cX11_eraseMarch 8 = .ok (.aload_n 0, 1) := by decide +kernel
theorem dX11_eraseMarch_9 : decode cX11_eraseMarch 9 = .ok (.getfield 78, 3) := by decide +kernel
theorem dX11_eraseMarch_12 : decode cX11_eraseMarch 12 = .ok (.iconst 0, 1) := by decide +kernel
theorem dX11_eraseMarch_13 : decode cX11_eraseMarch 13 = .ok (.putfield 482, 3) := by decide +kernel
theorem dX11_eraseMarch_16 : decode cX11_eraseMarch 16 = .ok (.iload_n 1, 1) := by decide +kernel
theorem dX11_eraseMarch_17 : decode cX11_eraseMarch 17 = .ok (.ireturn, 1) := by decide +kernel
theorem dX11_escapes_0 : decode cX11_escapes 0 = .ok (.iload_n 1, 1) := by decide +kernel
theorem dX11_escapes_1 : decode cX11_escapes 1 = .ok (.iconst 0, 1) := by decide +kernel
theorem dX11_escapes_2 : decode cX11_escapes 2 = .ok (.aload_n 0, 1) := by decide +kernel
theorem dX11_escapes_3 : decode cX11_escapes 3 = .ok (.getfield 28, 3) := by decide +kernel
theorem dX11_escapes_6 : decode cX11_escapes 6 = .ok (.getfield 103, 3) := by decide +kernel
theorem dX11_escapes_9 : decode cX11_escapes 9 = .ok (.invokestatic 361, 3) := by decide +kernel
theorem dX11_escapes_12 : decode cX11_escapes 12 = .ok (.aload_n 0, 1) := by decide +kernel
theorem dX11_escapes_13 : decode cX11_escapes 13 = .ok (.getfield 37, 3) := by decide +kernel
theorem dX11_escapes_16 : decode cX11_escapes 16 = .ok (.aload_n 0, 1) := by decide +kernel
theorem dX11_escapes_17 : decode cX11_escapes 17 = .ok (.getfield 28, 3) := by decide +kernel
theorem dX11_escapes_20 : decode cX11_escapes 20 = .ok (.invokevirtual 276, 3) := by decide +kernel
theorem dX11_escapes_23 : decode cX11_escapes 23 = .ok (.aload_n 0, 1) := by decide +kernel
theorem dX11_escapes_24 : decode cX11_escapes 24 = .ok (.getfield 28, 3) := by decide +kernel
theorem dX11_escapes_27 : decode cX11_escapes 27 = .ok (.aload_n 0, 1) := by decide +kernel
theorem dX11_escapes_28 : decode cX11_escapes 28 = .ok (.getfield 37, 3) := by decide +kernel
theorem dX11_escapes_31 : decode cX11_escapes 31 = .ok (.aload_n 0, 1) := by decide +kernel
theorem dX11_escapes_32 : decode cX11_escapes 32 = .ok (.getfield 21, 3) := by decide +kernel
theorem dX11_escapes_35 : decode cX11_escapes 35 = .ok (.invokevirtual 471, 3) := by decide +kernel
theorem dX11_escapes_38 : decode cX11_escapes 38 = .ok (.lconst 0, 1) := by decide +kernel
theorem dX11_escapes_39 : decode cX11_escapes 39 = .ok (.lstore_n 2, 1) := by decide +kernel
theorem dX11_escapes_40 : decode cX11_escapes 40 = .ok (.iconst 0, 1) := by decide +kernel
theorem dX11_escapes_41 : decode cX11_escapes 41 = .ok (.istore 4, 2) := by decide +kernel
theorem dX11_escapes_43 : decode cX11_escapes 43 = .ok (.iload 4, 2) := by decide +kernel
theorem dX11_escapes_45 : decode cX11_escapes 45 = .ok (.iload_n 1, 1) := by decide +kernel
theorem dX11_escapes_46 : decode cX11_escapes 46 = .ok (.if_icmp .ge 24, 3) := by decide +kernel
theorem dX11_escapes_49 : decode cX11_escapes 49 = .ok (.lload_n 2, 1) := by decide +kernel
theorem dX11_escapes_50 : decode cX11_escapes 50 = .ok (.lconst 1, 1) := by decide +kernel
theorem dX11_escapes_51 : decode cX11_escapes 51 = .ok (.aload_n 0, 1) := by decide +kernel
theorem dX11_escapes_52 : decode cX11_escapes 52 = .ok (.getfield 28, 3) := by decide +kernel
theorem dX11_escapes_55 : decode cX11_escapes 55 = .ok (.getfield 475, 3) := by decide +kernel
theorem dX11_escapes_58 : decode cX11_escapes 58 = .ok (.iload 4, 2) := by decide +kernel
theorem dX11_escapes_60 : decode cX11_escapes 60 = .ok (.iaload, 1) := by decide +kernel
theorem dX11_escapes_61 : decode cX11_escapes 61 = .ok (.lshl, 1) := by decide +kernel
theorem dX11_escapes_62 : decode cX11_escapes 62 = .ok (.lor, 1) := by decide +kernel
theorem dX11_escapes_63 : decode cX11_escapes 63 = .ok (.lstore_n 2, 1) := by decide +kernel
theorem dX11_escapes_64 : decode cX11_escapes 64 = .ok (.iinc 4 1, 3) := by decide +kernel
theorem dX11_escapes_67 : decode cX11_escapes 67 = .ok (.goto (-24), 3) := by decide +kernel
theorem dX11_escapes_70 : decode cX11_escapes 70 = .ok (.iconst 0, 1) := by decide +kernel
theorem dX11_escapes_71 : decode cX11_escapes 71 = .ok (.istore 4, 2) := by decide +kernel
theorem dX11_escapes_73 : decode cX11_escapes 73 = .ok (.iconst 0, 1) := by decide +kernel
theorem dX11_escapes_74 : decode cX11_escapes 74 = .ok (.istore 5, 2) := by decide +kernel
theorem dX11_escapes_76 : decode cX11_escapes 76 = .ok (.iload 5, 2) := by decide +kernel
theorem dX11_escapes_78 : decode cX11_escapes 78 = .ok (.aload_n 0, 1) := by decide +kernel
theorem dX11_escapes_79 : decode cX11_escapes 79 = .ok (.getfield 21, 3) := by decide +kernel
theorem dX11_escapes_82 : decode cX11_escapes 82 = .ok (.getfield 111, 3) := by decide +kernel
theorem dX11_escapes_85 : decode cX11_escapes 85 = .ok (.if_icmp .ge 52, 3) := by decide +kernel
theorem dX11_escapes_88 : decode cX11_escapes 88 = .ok (.aload_n 0, 1) := by decide +kernel
theorem dX11_escapes_89 : decode cX11_escapes 89 = .ok (.getfield 21, 3) := by decide +kernel
theorem dX11_escapes_92 : decode cX11_escapes 92 = .ok (.iload 5, 2) := by decide +kernel
theorem dX11_escapes_94 : decode cX11_escapes 94 = .ok (.invokevirtual 294, 3) := by decide +kernel
theorem dX11_escapes_97 : decode cX11_escapes 97 = .ok (.ifCond .eq 34, 3) := by decide +kernel
theorem dX11_escapes_100 : decode cX11_escapes 100 = .ok (.aload_n 0, 1) := by decide +kernel
theorem dX11_escapes_101 : decode cX11_escapes 101 = .ok (.getfield 37, 3) := by decide +kernel
theorem dX11_escapes_104 : decode cX11_escapes 104 = .ok (.getfield 280, 3) := by decide +kernel
theorem dX11_escapes_107 : decode cX11_escapes 107 = .ok (.iload 5, 2) := by decide +kernel
theorem dX11_escapes_109 : decode cX11_escapes 109 = .ok (.laload, 1) := by decide +kernel
theorem dX11_escapes_110 : decode cX11_escapes 110 = .ok (.lload_n 2, 1) := by decide +kernel
theorem dX11_escapes_111 : decode cX11_escapes 111 = .ok (.land, 1) := by decide +kernel
theorem dX11_escapes_112 : decode cX11_escapes 112 = .ok (.lconst 0, 1) := by decide +kernel
theorem dX11_escapes_113 : decode cX11_escapes 113 = .ok (.lcmp, 1) := by decide +kernel
theorem dX11_escapes_114 : decode cX11_escapes 114 = .ok (.ifCond .ne 17, 3) := by decide +kernel
theorem dX11_escapes_117 : decode cX11_escapes 117 = .ok (.iload 4, 2) := by decide +kernel
theorem dX11_escapes_119 : decode cX11_escapes 119 = .ok (.aload_n 0, 1) := by decide +kernel
theorem dX11_escapes_120 : decode cX11_escapes 120 = .ok (.getfield 21, 3) := by decide +kernel
theorem dX11_escapes_123 : decode cX11_escapes 123 = .ok (.iload 5, 2) := by decide +kernel
theorem dX11_escapes_125 : decode cX11_escapes 125 = .ok (.invokevirtual 450, 3) := by decide +kernel
theorem dX11_escapes_128 : decode cX11_escapes 128 = .ok (.iadd, 1) := by decide +kernel
theorem dX11_escapes_129 : decode cX11_escapes 129 = .ok (.istore 4, 2) := by decide +kernel
theorem dX11_escapes_131 : decode cX11_escapes 131 = .ok (.iinc 5 1, 3) := by decide +kernel
theorem dX11_escapes_134 : decode cX11_escapes 134 = .ok (.goto (-58), 3) := by decide +kernel
theorem dX11_escapes_137 : decode cX11_escapes 137 = .ok (.iload 4, 2) := by decide +kernel
theorem dX11_escapes_139 : decode cX11_escapes 139 = .ok (.ireturn, 1) := by decide +kernel
theorem dX11_fails_0 : decode cX11_fails 0 = .ok (.aload_n 0, 1) := by decide +kernel
theorem dX11_fails_1 : decode cX11_fails 1 = .ok (.iload_n 1, 1) := by decide +kernel
theorem dX11_fails_2 : decode cX11_fails 2 = .ok (.invokevirtual 200, 3) := by decide +kernel
theorem dX11_fails_5 : decode cX11_fails 5 = .ok (.aload_n 0, 1) := by decide +kernel
theorem dX11_fails_6 : decode cX11_fails 6 = .ok (.getfield 71, 3) := by decide +kernel
theorem dX11_fails_9 : decode cX11_fails 9 = .ok (.iload_n 1, 1) := by decide +kernel
theorem dX11_fails_10 : decode cX11_fails 10 = .ok (.invokevirtual 435, 3) := by decide +kernel
theorem dX11_fails_13 : decode cX11_fails 13 = .ok (.lreturn, 1) := by decide +kernel
theorem dX11_faults_0 : decode cX11_faults 0 = .ok (.aload_n 0, 1) := by decide +kernel
theorem dX11_faults_1 : decode cX11_faults 1 = .ok (.getfield 21, 3) := by decide +kernel
theorem dX11_faults_4 : decode cX11_faults 4 = .ok (.getfield 106, 3) := by decide +kernel
theorem dX11_faults_7 : decode cX11_faults 7 = .ok (.ireturn, 1) := by decide +kernel
theorem dX11_faulty_0 : decode cX11_faulty 0 = .ok (.aload_n 0, 1) := by decide +kernel
theorem dX11_faulty_1 : decode cX11_faulty 1 = .ok (.iload_n 1, 1) := by decide +kernel
theorem dX11_faulty_2 : decode cX11_faulty 2 = .ok (.invokevirtual 200, 3) := by decide +kernel
theorem dX11_faulty_5 : decode cX11_faulty 5 = .ok (.aload_n 0, 1) := by decide +kernel
theorem dX11_faulty_6 : decode cX11_faulty 6 = .ok (.iload_n 2, 1) := by decide +kernel
theorem dX11_faulty_7 : decode cX11_faulty 7 = .ok (.invokevirtual 149, 3) := by decide +kernel
theorem dX11_faulty_10 : decode cX11_faulty 10 = .ok (.aload_n 0, 1) := by decide +kernel
theorem dX11_faulty_11 : decode cX11_faulty 11 = .ok (.iload_n 3, 1) := by decide +kernel
theorem dX11_faulty_12 : decode cX11_faulty 12 = .ok (.invokevirtual 107, 3) := by decide +kernel
theorem dX11_faulty_15 : decode cX11_faulty 15 = .ok (.aload_n 0, 1) := by decide +kernel
theorem dX11_faulty_16 : decode cX11_faulty 16 = .ok (.getfield 46, 3) := by decide +kernel
theorem dX11_faulty_19 : decode cX11_faulty 19 = .ok (.iload_n 3, 1) := by decide +kernel
theorem dX11_faulty_20 : decode cX11_faulty 20 = .ok (.iload_n 1, 1) := by decide +kernel
theorem dX11_faulty_21 : decode cX11_faulty 21 = .ok (.invokevirtual 209, 3) := by decide +kernel
theorem dX11_faulty_24 : decode cX11_faulty 24 = .ok (.aload_n 0, 1) := by decide +kernel
theorem dX11_faulty_25 : decode cX11_faulty 25 = .ok (.getfield 46, 3) := by decide +kernel
theorem dX11_faulty_28 : decode cX11_faulty 28 = .ok (.getfield 213, 3) := by decide +kernel
theorem dX11_faulty_31 : decode cX11_faulty 31 = .ok (.iload_n 2, 1) := by decide +kernel
theorem dX11_faulty_32 : decode cX11_faulty 32 = .ok (.iaload, 1) := by decide +kernel
theorem dX11_faulty_33 : decode cX11_faulty 33 = .ok (.ireturn, 1) := by decide +kernel
theorem dX11_fill_0 : decode cX11_fill 0 = .ok (.aload_n 0, 1) := by decide +kernel
theorem dX11_fill_1 : decode cX11_fill 1 = .ok (.iload_n 1, 1) := by decide +kernel
theorem dX11_fill_2 : decode cX11_fill 2 = .ok (.invokevirtual 200, 3) := by decide +kernel
theorem dX11_fill_5 : decode cX11_fill 5 = .ok (.iload_n 2, 1) := by decide +kernel
theorem dX11_fill_6 : decode cX11_fill 6 = .ok (.bipush 122, 2) := by decide +kernel
theorem dX11_fill_8 : decode cX11_fill 8 = .ok (.if_icmp .eq 23, 3) := by decide +kernel
theorem dX11_fill_11 : decode cX11_fill 11 = .ok (.iload_n 2, 1) := by decide +kernel
theorem dX11_fill_12 : decode cX11_fill 12 = .ok (.bipush 111, 2) := by decide +kernel
theorem dX11_fill_14 : decode cX11_fill 14 = .ok (.if_icmp .eq 17, 3) := by decide +kernel
theorem dX11_fill_17 : decode cX11_fill 17 = .ok (.iload_n 2, 1) := by decide +kernel
theorem dX11_fill_18 : decode cX11_fill 18 = .ok (.bipush 97, 2) := by decide +kernel
theorem dX11_fill_20 : decode cX11_fill 20 = .ok (.if_icmp .eq 11, 3) := by decide +kernel
theorem dX11_fill_23 : decode cX11_fill 23 = .ok (.new 114, 3) := by decide +kernel
theorem dX11_fill_26 : decode cX11_fill 26 = .ok (.dup, 1) := by decide +kernel
theorem dX11_fill_27 : decode cX11_fill 27 = .ok (.invokespecial 116, 3) := by decide +kernel
theorem dX11_fill_30 : decode cX11_fill 30 = .ok (.athrow, 1) := by decide +kernel
theorem dX11_fill_31 : decode cX11_fill 31 = .ok (.aload_n 0, 1) := by decide +kernel
theorem dX11_fill_32 : decode cX11_fill 32 = .ok (.getfield 28, 3) := by decide +kernel
theorem dX11_fill_35 : decode cX11_fill 35 = .ok (.iload_n 1, 1) := by decide +kernel
theorem dX11_fill_36 : decode cX11_fill 36 = .ok (.iload_n 2, 1) := by decide +kernel
theorem dX11_fill_37 : decode cX11_fill 37 = .ok (.aload_n 0, 1) := by decide +kernel
theorem dX11_fill_38 : decode cX11_fill 38 = .ok (.getfield 10, 3) := by decide +kernel
theorem dX11_fill_41 : decode cX11_fill 41 = .ok (.getfield 138, 3) := by decide +kernel
theorem dX11_fill_44 : decode cX11_fill 44 = .ok (.invokevirtual 351, 3) := by decide +kernel
theorem dX11_fill_47 : decode cX11_fill 47 = .ok (.ireturn, 1) := by decide +kernel
theorem dX11_finds_0 : decode cX11_finds 0 = .ok (.aload_n 0, 1) := by decide +kernel
theorem dX11_finds_1 : decode cX11_finds 1 = .ok (.iload_n 1, 1) := by decide +kernel
theorem dX11_finds_2 : decode cX11_finds 2 = .ok (.invokevirtual 107, 3) := by decide +kernel
theorem dX11_finds_5 : decode cX11_finds 5 = .ok (.aload_n 0, 1) := by decide +kernel
theorem dX11_finds_6 : decode cX11_finds 6 = .ok (.iload_n 2, 1) := by decide +kernel
theorem dX11_finds_7 : decode cX11_finds 7 = .ok (.invokevirtual 200, 3) := by decide +kernel
theorem dX11_finds_10 : decode cX11_finds 10 = .ok (.aload_n 0, 1) := by decide +kernel
theorem dX11_finds_11 : decode cX11_finds 11 = .ok (.iload_n 3, 1) := by decide +kernel
theorem dX11_finds_12 : decode cX11_finds 12 = .ok (.invokevirtual 244, 3) := by decide +kernel
theorem dX11_finds_15 : decode cX11_finds 15 = .ok (.aload_n 0, 1) := by decide +kernel
theorem dX11_finds_16 : decode cX11_finds 16 = .ok (.iload_n 3, 1) := by decide +kernel
theorem dX11_finds_17 : decode cX11_finds 17 = .ok (.iload_n 1, 1) := by decide +kernel
theorem dX11_finds_18 : decode cX11_finds 18 = .ok (.iload_n 2, 1) := by decide +kernel
theorem dX11_finds_19 : decode cX11_finds 19 = .ok (.invokevirtual 248, 3) := by decide +kernel
theorem dX11_finds_22 : decode cX11_finds 22 = .ok (.ireturn, 1) := by decide +kernel
theorem dX11_foundBy_0 : decode cX11_foundBy 0 = .ok (.aload_n 0, 1) := by decide +kernel
theorem dX11_foundBy_1 : decode cX11_foundBy 1 = .ok (.iload_n 1, 1) := by decide +kernel
theorem dX11_foundBy_2 : decode cX11_foundBy 2 = .ok (.invokevirtual 107, 3) := by decide +kernel
theorem dX11_foundBy_5 : decode cX11_foundBy 5 = .ok (.aload_n 0, 1) := by decide +kernel
theorem dX11_foundBy_6 : decode cX11_foundBy 6 = .ok (.getfield 37, 3) := by decide +kernel
theorem dX11_foundBy_9 : decode cX11_foundBy 9 = .ok (.iload_n 1, 1) := by decide +kernel
theorem dX11_foundBy_10 : decode cX11_foundBy 10 = .ok (.aload_n 0, 1) := by decide +kernel
theorem dX11_foundBy_11 : decode cX11_foundBy 11 = .ok (.getfield 28, 3) := by decide +kernel
theorem dX11_foundBy_14 : decode cX11_foundBy 14 = .ok (.invokevirtual 252, 3) := by decide +kernel
theorem dX11_foundBy_17 : decode cX11_foundBy 17 = .ok (.lreturn, 1) := by decide +kernel
theorem dX11_gate_0 : decode cX11_gate 0 = .ok (.iload_n 1, 1) := by decide +kernel
theorem dX11_gate_1 : decode cX11_gate 1 = .ok (.invokestatic 145, 3) := by decide +kernel
theorem dX11_gate_4 : decode cX11_gate 4 = .ok (.istore 4, 2) := by decide +kernel
theorem dX11_gate_6 : decode cX11_gate 6 = .ok (.iload 4, 2) := by decide +kernel
theorem dX11_gate_8 : decode cX11_gate 8 = .ok (.ifCond .ne 11, 3) := by decide +kernel
theorem dX11_gate_11 : decode cX11_gate 11 = .ok (.new 114, 3) := by decide +kernel
theorem dX11_gate_14 : decode cX11_gate 14 = .ok (.dup, 1) := by decide +kernel
theorem dX11_gate_15 : decode cX11_gate 15 = .ok (.invokespecial 116, 3) := by decide +kernel
theorem dX11_gate_18 : decode cX11_gate 18 = .ok (.athrow, 1) := by decide +kernel
theorem dX11_gate_19 : decode cX11_gate 19 = .ok (.aload_n 0, 1) := by decide +kernel
theorem dX11_gate_20 : decode cX11_gate 20 = .ok (.iload_n 2, 1) := by decide +kernel
theorem dX11_gate_21 : decode cX11_gate 21 = .ok (.invokevirtual 149, 3) := by decide +kernel
theorem dX11_gate_24 : decode cX11_gate 24 = .ok (.iload 4, 2) := by decide +kernel
theorem dX11_gate_26 : decode cX11_gate 26 = .ok (.iconst 2, 1) := by decide +kernel
theorem dX11_gate_27 : decode cX11_gate 27 = .ok (.if_icmp .ne 8, 3) := by decide +kernel
theorem dX11_gate_30 : decode cX11_gate 30 = .ok (.aload_n 0, 1) := by decide +kernel
theorem dX11_gate_31 : decode cX11_gate 31 = .ok (.iload_n 3, 1) := by decide +kernel
theorem dX11_gate_32 : decode cX11_gate 32 = .ok (.invokevirtual 149, 3) := by decide +kernel
theorem dX11_gate_35 : decode cX11_gate 35 = .ok (.aload_n 0, 1) := by decide +kernel
theorem dX11_gate_36 : decode cX11_gate 36 = .ok (.invokevirtual 135, 3) := by decide +kernel
theorem dX11_gate_39 : decode cX11_gate 39 = .ok (.aload_n 0, 1) := by decide +kernel
theorem dX11_gate_40 : decode cX11_gate 40 = .ok (.getfield 10, 3) := by decide +kernel
theorem dX11_gate_43 : decode cX11_gate 43 = .ok (.getfield 96, 3) := by decide +kernel
theorem dX11_gate_46 : decode cX11_gate 46 = .ok (.bipush 40, 2) := by decide +kernel
theorem dX11_gate_48 : decode cX11_gate 48 = .ok (.if_icmp .lt 11, 3) := by decide +kernel
theorem dX11_gate_51 : decode cX11_gate 51 = .ok (.new 141, 3) := by decide +kernel
theorem dX11_gate_54 : decode cX11_gate 54 = .ok (.dup, 1) := by decide +kernel
theorem dX11_gate_55 : decode cX11_gate 55 = .ok (.invokespecial 143, 3) := by decide +kernel
theorem dX11_gate_58 : decode cX11_gate 58 = .ok (.athrow, 1) := by decide +kernel
theorem dX11_gate_59 : decode cX11_gate 59 = .ok (.aload_n 0, 1) := by decide +kernel
theorem dX11_gate_60 : decode cX11_gate 60 = .ok (.getfield 10, 3) := by decide +kernel
theorem dX11_gate_63 : decode cX11_gate 63 = .ok (.iload_n 1, 1) := by decide +kernel
theorem dX11_gate_64 : decode cX11_gate 64 = .ok (.iload_n 2, 1) := by decide +kernel
theorem dX11_gate_65 : decode cX11_gate 65 = .ok (.iload 4, 2) := by decide +kernel
theorem dX11_gate_67 : decode cX11_gate 67 = .ok (.iconst 2, 1) := by decide +kernel
theorem dX11_gate_68 : decode cX11_gate 68 = .ok (.if_icmp .ne 7, 3) := by decide +kernel
theorem dX11_gate_71 : decode cX11_gate 71 = .ok (.iload_n 3, 1) := by decide +kernel
theorem dX11_gate_72 : decode cX11_gate 72 = .ok (.goto 4, 3) := by decide +kernel
theorem dX11_gate_75 : decode cX11_gate 75 = .ok (.iload_n 2, 1) := by decide +kernel
theorem dX11_gate_76 : decode cX11_gate 76 = .ok (.invokevirtual 152, 3) := by decide +kernel
theorem dX11_gate_79 : decode cX11_gate 79 = .ok (.ireturn, 1) := by decide +kernel
theorem dX11_got_0 : decode cX11_got 0 = .ok (.aload_n 0, 1) := by decide +kernel
theorem dX11_got_1 : decode cX11_got 1 = .ok (.iload_n 1, 1) := by decide +kernel
theorem dX11_got_2 : decode cX11_got 2 = .ok (.invokevirtual 515, 3) := by decide +kernel
theorem dX11_got_5 : decode cX11_got 5 = .ok (.aload_n 0, 1) := by decide +kernel
theorem dX11_got_6 : decode cX11_got 6 = .ok (.iload_n 2, 1) := by decide +kernel
theorem dX11_got_7 : decode cX11_got 7 = .ok (.invokevirtual 526, 3) := by decide +kernel
theorem dX11_got_10 : decode cX11_got 10 = .ok (.aload_n 0, 1) := by decide +kernel
theorem dX11_got_11 : decode cX11_got 11 = .ok (.getfield 85, 3) := by decide +kernel
theorem dX11_got_14 : decode cX11_got 14 = .ok (.iload_n 1, 1) := by decide +kernel
theorem dX11_got_15 : decode cX11_got 15 = .ok (.iload_n 2, 1) := by decide +kernel
theorem dX11_got_16 : decode cX11_got 16 = .ok (.invokevirtual 529, 3) := by decide +kernel
theorem dX11_got_19 : decode cX11_got 19 = .ok (.ireturn, 1) := by decide +kernel
theorem dX11_hardest_0 : decode cX11_hardest 0 = .ok (.aload_n 0, 1) := by decide +kernel
theorem dX11_hardest_1 : decode cX11_hardest 1 = .ok (.getfield 37, 3) := by decide +kernel
theorem dX11_hardest_4 : decode cX11_hardest 4 = .ok (.invokevirtual 423, 3) := by decide +kernel
theorem dX11_hardest_7 : decode cX11_hardest 7 = .ok (.iconst (-1), 1) := by decide +kernel
theorem dX11_hardest_8 : decode cX11_hardest 8 = .ok (.istore_n 1, 1) := by decide +kernel
theorem dX11_hardest_9 : decode cX11_hardest 9 = .ok (.iconst 0, 1) := by decide +kernel
theorem dX11_hardest_10 : decode cX11_hardest 10 = .ok (.istore_n 2, 1) := by decide +kernel
theorem dX11_hardest_11 : decode cX11_hardest 11 = .ok (.iload_n 2, 1) := by decide +kernel
theorem dX11_hardest_12 : decode cX11_hardest 12 = .ok (.aload_n 0, 1) := by decide +kernel
theorem dX11_hardest_13 : decode cX11_hardest 13 = .ok (.getfield 21, 3) := by decide +kernel
theorem dX11_hardest_16 : decode cX11_hardest 16 = .ok (.getfield 111, 3) := by decide +kernel
theorem dX11_hardest_19 : decode cX11_hardest 19 = .ok (.if_icmp .ge 69, 3) := by decide +kernel
theorem dX11_hardest_22 : decode cX11_hardest 22 = .ok (.aload_n 0, 1) := by decide +kernel
theorem dX11_hardest_23 : decode cX11_hardest 23 = .ok (.getfield 21, 3) := by decide +kernel
theorem dX11_hardest_26 : decode cX11_hardest 26 = .ok (.iload_n 2, 1) := by decide +kernel
theorem dX11_hardest_27 : decode cX11_hardest 27 = .ok (.invokevirtual 294, 3) := by decide +kernel
theorem dX11_hardest_30 : decode cX11_hardest 30 = .ok (.ifCond .eq 19, 3) := by decide +kernel
theorem dX11_hardest_33 : decode cX11_hardest 33 = .ok (.aload_n 0, 1) := by decide +kernel
theorem dX11_hardest_34 : decode cX11_hardest 34 = .ok (.getfield 37, 3) := by decide +kernel
theorem dX11_hardest_37 : decode cX11_hardest 37 = .ok (.getfield 426, 3) := by decide +kernel
theorem dX11_hardest_40 : decode cX11_hardest 40 = .ok (.iload_n 2, 1) := by decide +kernel
theorem dX11_hardest_41 : decode cX11_hardest 41 = .ok (.iaload, 1) := by decide +kernel
theorem dX11_hardest_42 : decode cX11_hardest 42 = .ok (.ifCond .le 7, 3) := by decide +kernel
theorem dX11_hardest_45 : decode cX11_hardest 45 = .ok (.iconst 1, 1) := by decide +kernel
theorem dX11_hardest_46 : decode cX11_hardest 46 = .ok (.goto 4, 3) := by decide +kernel
theorem dX11_hardest_49 : decode cX11_hardest 49 = .ok (.iconst 0, 1) := by decide +kernel
theorem dX11_hardest_50 : decode cX11_hardest 50 = .ok (.istore_n 3, 1) := by decide +kernel
theorem dX11_hardest_51 : decode cX11_hardest 51 = .ok (.iload_n 3, 1) := by decide +kernel
theorem dX11_hardest_52 : decode cX11_hardest 52 = .ok (.ifCond .eq 30, 3) := by decide +kernel
theorem dX11_hardest_55 : decode cX11_hardest 55 = .ok (.iload_n 1, 1) := by decide +kernel
theorem dX11_hardest_56 : decode cX11_hardest 56 = .ok (.ifCond .lt 24, 3) := by decide +kernel
theorem dX11_hardest_59 : decode cX11_hardest 59 = .ok (.aload_n 0, 1) := by decide +kernel
theorem dX11_hardest_60 : decode cX11_hardest 60 = .ok (.getfield 37, 3) := by decide +kernel
theorem dX11_hardest_63 : decode cX11_hardest 63 = .ok (.getfield 426, 3) := by decide +kernel
theorem dX11_hardest_66 : decode cX11_hardest 66 = .ok (.iload_n 2, 1) := by decide +kernel
theorem dX11_hardest_67 : decode cX11_hardest 67 = .ok (.iaload, 1) := by decide +kernel
theorem dX11_hardest_68 : decode cX11_hardest 68 = .ok (.aload_n 0, 1) := by decide +kernel
theorem dX11_hardest_69 : decode cX11_hardest 69 = .ok (.getfield 37, 3) := by decide +kernel
theorem dX11_hardest_72 : decode cX11_hardest 72 = .ok (.getfield 426, 3) := by decide +kernel
theorem dX11_hardest_75 : decode cX11_hardest 75 = .ok (.iload_n 1, 1) := by decide +kernel
theorem dX11_hardest_76 : decode cX11_hardest 76 = .ok (.iaload, 1) := by decide +kernel
theorem dX11_hardest_77 : decode cX11_hardest 77 = .ok (.if_icmp .ge 5, 3) := by decide +kernel
theorem dX11_hardest_80 : decode cX11_hardest 80 = .ok (.iload_n 2, 1) := by decide +kernel
theorem dX11_hardest_81 : decode cX11_hardest 81 = .ok (.istore_n 1, 1) := by decide +kernel
theorem dX11_hardest_82 : decode cX11_hardest 82 = .ok (.iinc 2 1, 3) := by decide +kernel
theorem dX11_hardest_85 : decode cX11_hardest 85 = .ok (.goto (-74), 3) := by decide +kernel
theorem dX11_hardest_88 : decode cX11_hardest 88 = .ok (.iload_n 1, 1) := by decide +kernel
theorem dX11_hardest_89 : decode cX11_hardest 89 = .ok (.ifCond .ge 11, 3) := by decide +kernel
theorem dX11_hardest_92 : decode cX11_hardest 92 = .ok (.new 310, 3) := by decide +kernel
theorem dX11_hardest_95 : decode cX11_hardest 95 = .ok (.dup, 1) := by decide +kernel
theorem dX11_hardest_96 : decode cX11_hardest 96 = .ok (.invokespecial 312, 3) := by decide +kernel
theorem dX11_hardest_99 : decode cX11_hardest 99 = .ok (.athrow, 1) := by decide +kernel
theorem dX11_hardest_100 : decode cX11_hardest 100 = .ok (.iload_n 1, 1) := by decide +kernel
theorem dX11_hardest_101 : decode cX11_hardest 101 = .ok (.ireturn, 1) := by decide +kernel
theorem dX11_needEngine_0 : decode cX11_needEngine 0 = .ok (.iload_n 1, 1) := by decide +kernel
theorem dX11_needEngine_1 : decode cX11_needEngine 1 = .ok (.bipush 115, 2) := by decide +kernel
theorem dX11_needEngine_3 : decode cX11_needEngine 3 = .ok (.if_icmp .eq 23, 3) := by decide +kernel
theorem dX11_needEngine_6 : decode cX11_needEngine 6 = .ok (.iload_n 1, 1) := by decide +kernel
theorem dX11_needEngine_7 : decode cX11_needEngine 7 = .ok (.bipush 112, 2) := by decide +kernel
theorem dX11_needEngine_9 : decode cX11_needEngine 9 = .ok (.if_icmp .eq 17, 3) := by decide +kernel
theorem dX11_needEngine_12 : decode cX11_needEngine 12 = .ok (.iload_n 1, 1) := by decide +kernel
theorem dX11_needEngine_13 : decode cX11_needEngine 13 = .ok (.bipush 100, 2) := by decide +kernel
theorem dX11_needEngine_15 : decode cX11_needEngine 15 = .ok (.if_icmp .eq 11, 3) := by decide +kernel
theorem dX11_needEngine_18 : decode cX11_needEngine 18 = .ok (.new 114, 3) := by decide +kernel
theorem dX11_needEngine_21 : decode cX11_needEngine 21 = .ok (.dup, 1) := by decide +kernel
theorem dX11_needEngine_22 : decode cX11_needEngine 22 = .ok (.invokespecial 116, 3) := by decide +kernel
theorem dX11_needEngine_25 : decode cX11_needEngine 25 = .ok (.athrow, 1) := by decide +kernel
theorem dX11_needEngine_26 : decode cX11_needEngine 26 = .ok (.return_, 1) := by decide +kernel
theorem dX11_needPattern_0 : decode cX11_needPattern 0 = .ok (.iload_n 1, 1) := by decide +kernel
theorem dX11_needPattern_1 : decode cX11_needPattern 1 = .ok (.ifCond .lt 14, 3) := by decide +kernel
theorem dX11_needPattern_4 : decode cX11_needPattern 4 = .ok (.iload_n 1, 1) := by decide +kernel
theorem dX11_needPattern_5 : decode cX11_needPattern 5 = .ok (.aload_n 0, 1) := by decide +kernel
theorem dX11_needPattern_6 : decode cX11_needPattern 6 = .ok (.getfield 28, 3) := by decide +kernel
theorem dX11_needPattern_9 : decode cX11_needPattern 9 = .ok (.getfield 103, 3) := by decide +kernel
theorem dX11_needPattern_12 : decode cX11_needPattern 12 = .ok (.if_icmp .lt 11, 3) := by decide +kernel
theorem dX11_needPattern_15 : decode cX11_needPattern 15 = .ok (.new 100, 3) := by decide +kernel
theorem dX11_needPattern_18 : decode cX11_needPattern 18 = .ok (.dup, 1) := by decide +kernel
theorem dX11_needPattern_19 : decode cX11_needPattern 19 = .ok (.invokespecial 102, 3) := by decide +kernel
theorem dX11_needPattern_22 : decode cX11_needPattern 22 = .ok (.athrow, 1) := by decide +kernel
theorem dX11_needPattern_23 : decode cX11_needPattern 23 = .ok (.return_, 1) := by decide +kernel
theorem dX11_needWire_0 : decode cX11_needWire 0 = .ok (.iload_n 1, 1) := by decide +kernel
theorem dX11_needWire_1 : decode cX11_needWire 1 = .ok (.ifCond .lt 14, 3) := by decide +kernel
theorem dX11_needWire_4 : decode cX11_needWire 4 = .ok (.iload_n 1, 1) := by decide +kernel
theorem dX11_needWire_5 : decode cX11_needWire 5 = .ok (.aload_n 0, 1) := by decide +kernel
theorem dX11_needWire_6 : decode cX11_needWire 6 = .ok (.getfield 85, 3) := by decide +kernel
theorem dX11_needWire_9 : decode cX11_needWire 9 = .ok (.getfield 128, 3) := by decide +kernel
theorem dX11_needWire_12 : decode cX11_needWire 12 = .ok (.if_icmp .lt 11, 3) := by decide +kernel
theorem dX11_needWire_15 : decode cX11_needWire 15 = .ok (.new 100, 3) := by decide +kernel
theorem dX11_needWire_18 : decode cX11_needWire 18 = .ok (.dup, 1) := by decide +kernel
theorem dX11_needWire_19 : decode cX11_needWire 19 = .ok (.invokespecial 102, 3) := by decide +kernel
theorem dX11_needWire_22 : decode cX11_needWire 22 = .ok (.athrow, 1) := by decide +kernel
theorem dX11_needWire_23 : decode cX11_needWire 23 = .ok (.return_, 1) := by decide +kernel
theorem dX7_putInOrder_0 : decode cX7_putInOrder 0 = .ok (.iconst 0, 1) := by decide +kernel
theorem dX7_putInOrder_1 : decode cX7_putInOrder 1 = .ok (.istore_n 3, 1) := by decide +kernel
theorem dX7_putInOrder_2 : decode cX7_putInOrder 2 = .ok (.iload_n 3, 1) := by decide +kernel
theorem dX7_putInOrder_3 : decode cX7_putInOrder 3 = .ok (.aload_n 2, 1) := by decide +kernel
theorem dX7_putInOrder_4 : decode cX7_putInOrder 4 = .ok (.getfield 50, 3) := by decide +kernel
theorem dX7_putInOrder_7 : decode cX7_putInOrder 7 = .ok (.if_icmp .ge 34, 3) := by decide +kernel
theorem dX7_putInOrder_10 : decode cX7_putInOrder 10 = .ok (.aload_n 0, 1) := by decide +kernel
theorem dX7_putInOrder_11 : decode cX7_putInOrder 11 = .ok (.getfield 24, 3) := by decide +kernel
theorem dX7_putInOrder_14 : decode cX7_putInOrder 14 = .ok (.iload_n 3, 1) := by decide +kernel
theorem dX7_putInOrder_15 : decode cX7_putInOrder 15 = .ok (.aload_n 2, 1) := by decide +kernel
theorem dX7_putInOrder_16 : decode cX7_putInOrder 16 = .ok (.iload_n 3, 1) := by decide +kernel
theorem dX7_putInOrder_17 : decode cX7_putInOrder 17 = .ok (.invokevirtual 61, 3) := by decide +kernel
theorem dX7_putInOrder_20 : decode cX7_putInOrder 20 = .ok (.ifCond .eq 13, 3) := by decide +kernel
theorem dX7_putInOrder_23 : decode cX7_putInOrder 23 = .ok (.aload_n 2, 1) := by decide +kernel
theorem dX7_putInOrder_24 : decode cX7_putInOrder 24 = .ok (.iload_n 3, 1) := by decide +kernel
theorem dX7_putInOrder_25 : decode cX7_putInOrder 25 = .ok (.invokevirtual 65, 3) := by decide +kernel
theorem dX7_putInOrder_28 : decode cX7_putInOrder 28 = .ok (.iconst 1, 1) := by decide +kernel
theorem dX7_putInOrder_29 : decode cX7_putInOrder 29 = .ok (.iadd, 1) := by decide +kernel
theorem dX7_putInOrder_30 : decode cX7_putInOrder 30 = .ok (.goto 4, 3) := by decide +kernel
theorem dX7_putInOrder_33 : decode cX7_putInOrder 33 = .ok (.iconst 0, 1) := by decide +kernel
theorem dX7_putInOrder_34 : decode cX7_putInOrder 34 = .ok (.iastore, 1) := by decide +kernel
theorem dX7_putInOrder_35 : decode cX7_putInOrder 35 = .ok (.iinc 3 1, 3) := by decide +kernel
theorem dX7_putInOrder_38 : decode cX7_putInOrder 38 = .ok (.goto (-36), 3) := by decide +kernel
theorem dX7_putInOrder_41 : decode cX7_putInOrder 41 = .ok (.lconst 0, 1) := by decide +kernel
theorem dX7_putInOrder_42 : decode cX7_putInOrder 42 = .ok (.lstore_n 3, 1) := by decide +kernel
theorem dX7_putInOrder_43 : decode cX7_putInOrder 43 = .ok (.iconst 0, 1) := by decide +kernel
theorem dX7_putInOrder_44 : decode cX7_putInOrder 44 = .ok (.istore 5, 2) := by decide +kernel
theorem dX7_putInOrder_46 : decode cX7_putInOrder 46 = .ok (.iload 5, 2) := by decide +kernel
theorem dX7_putInOrder_48 : decode cX7_putInOrder 48 = .ok (.aload_n 0, 1) := by decide +kernel
theorem dX7_putInOrder_49 : decode cX7_putInOrder 49 = .ok (.getfield 27, 3) := by decide +kernel
theorem dX7_putInOrder_52 : decode cX7_putInOrder 52 = .ok (.if_icmp .ge 35, 3) := by decide +kernel
theorem dX7_putInOrder_55 : decode cX7_putInOrder 55 = .ok (.aload_n 0, 1) := by decide +kernel
theorem dX7_putInOrder_56 : decode cX7_putInOrder 56 = .ok (.getfield 21, 3) := by decide +kernel
theorem dX7_putInOrder_59 : decode cX7_putInOrder 59 = .ok (.iload 5, 2) := by decide +kernel
theorem dX7_putInOrder_61 : decode cX7_putInOrder 61 = .ok (.aload_n 0, 1) := by decide +kernel
theorem dX7_putInOrder_62 : decode cX7_putInOrder 62 = .ok (.lload_n 3, 1) := by decide +kernel
theorem dX7_putInOrder_63 : decode cX7_putInOrder 63 = .ok (.aload_n 1, 1) := by decide +kernel
theorem dX7_putInOrder_64 : decode cX7_putInOrder 64 = .ok (.aload_n 2, 1) := by decide +kernel
theorem dX7_putInOrder_65 : decode cX7_putInOrder 65 = .ok (.invokevirtual 69, 3) := by decide +kernel
theorem dX7_putInOrder_68 : decode cX7_putInOrder 68 = .ok (.iastore, 1) := by decide +kernel
theorem dX7_putInOrder_69 : decode cX7_putInOrder 69 = .ok (.lload_n 3, 1) := by decide +kernel
theorem dX7_putInOrder_70 : decode cX7_putInOrder 70 = .ok (.lconst 1, 1) := by decide +kernel
theorem dX7_putInOrder_71 : decode cX7_putInOrder 71 = .ok (.aload_n 0, 1) := by decide +kernel
theorem dX7_putInOrder_72 : decode cX7_putInOrder 72 = .ok (.getfield 21, 3) := by decide +kernel
theorem dX7_putInOrder_75 : decode cX7_putInOrder 75 = .ok (.iload 5, 2) := by decide +kernel
theorem dX7_putInOrder_77 : decode cX7_putInOrder 77 = .ok (.iaload, 1) := by decide +kernel
theorem dX7_putInOrder_78 : decode cX7_putInOrder 78 = .ok (.lshl, 1) := by decide +kernel
theorem dX7_putInOrder_79 : decode cX7_putInOrder 79 = .ok (.lor, 1) := by decide +kernel
theorem dX7_putInOrder_80 : decode cX7_putInOrder 80 = .ok (.lstore_n 3, 1) := by decide +kernel
theorem dX7_putInOrder_81 : decode cX7_putInOrder 81 = .ok (.iinc 5 1, 3) := by decide +kernel
theorem dX7_putInOrder_84 : decode cX7_putInOrder 84 = .ok (.goto (-38), 3) := by decide +kernel
theorem dX7_putInOrder_87 : decode cX7_putInOrder 87 = .ok (.return_, 1) := by decide +kernel
set_option maxHeartbeats 4000000 in
set_option maxRecDepth 100000 in
theorem k_X11_needEngine (l : Launch) (hfl : l.stackTraces = false) (D : va_G) (g : Nat → ClassId) (z0 sz : Nat) (a : Nat → Nat) (p0 : Int32) (hc_p0 : isC p0) : vx_Met l yX11_needEngine (.code yX11_needEngine cX11_needEngine 2 none :: TG) (rmk 6 1 6 81) (va_Pc [.ref (a 0), .int p0] (PP D g z0 sz [])) (va_Qv (fun (u : Unit) => ((p0 = 115) ∨ ((¬ p0 = 115) ∧ (p0 = 112)) ∨ ((¬ p0 = 115) ∧ (¬ p0 = 112) ∧ (p0 = 100)))) (fun (_ : Unit) (_ : State) => True) (va_A [] sz)) (vx_X (fun _ : Unit => True) (fun E _ _ => (E = "java/lang/IllegalArgumentException" ∧ ((¬ p0 = 115) ∧ (¬ p0 = 112) ∧ (¬ p0 = 100)))) (va_A [] sz)) 1 6 (va_A [] sz) := by
  refine vxm0 (cc := cX11_needEngine) (n := 2) (by decide) (Nat.le_of_ble_eq_true rfl) ?_
  intro p e s m args below meth c hx hb hr hml htab hown ht hlocks hnm hP0 hD0 hK hZ hsz hz ls hl
  subst hsz
  have hA : ∀ q : Nat, s.heap.size ≤ q → va_A [] s.heap.size q := Anw
  have hAz : ∀ q, va_A [] s.heap.size q → z0 ≤ q := A0z hz
  have hS : va_S (va_A [] s.heap.size) s.heap s.heap [] := va_S.rf
  have hl : lv_has ls 2 [(0, .ref (a 0)), (1, .int p0)] := hl
  refine lv_iload_n hx hb dX11_needEngine_0 rfl (lv_at hl 1 rfl) ?_
  refine lv_bipush (v := 115) hx hb dX11_needEngine_1 (by decide) ?_
  refine lv_icmp_eq (tgt := 26) hx hb dX11_needEngine_3 (by decide) (fun c_1 => ?_) (fun c_1 => ?_)
  · refine vx_ret (W.widen (k := 1) (n := 6) (Nat.le_of_ble_eq_true rfl) (Nat.le_of_ble_eq_true rfl) ?_)
    exact W.vret hx hb hr (fun t ht9 hW9 => ⟨⟨(), rfl, (Or.inl c_1), trivial⟩, hS.F ht9⟩) hS.2.2 dX11_needEngine_26 hlocks
  · refine lv_iload_n hx hb dX11_needEngine_6 rfl (lv_at hl 1 rfl) ?_
    refine lv_bipush (v := 112) hx hb dX11_needEngine_7 (by decide) ?_
    refine lv_icmp_eq (tgt := 26) hx hb dX11_needEngine_9 (by decide) (fun c_2 => ?_) (fun c_2 => ?_)
    · refine vx_ret (W.widen (k := 1) (n := 6) (Nat.le_of_ble_eq_true rfl) (Nat.le_of_ble_eq_true rfl) ?_)
      exact W.vret hx hb hr (fun t ht9 hW9 => ⟨⟨(), rfl, (Or.inr (Or.inl ⟨c_1, c_2⟩)), trivial⟩, hS.F ht9⟩) hS.2.2 dX11_needEngine_26 hlocks
    · refine lv_iload_n hx hb dX11_needEngine_12 rfl (lv_at hl 1 rfl) ?_
      refine lv_bipush (v := 100) hx hb dX11_needEngine_13 (by decide) ?_
      refine lv_icmp_eq (tgt := 26) hx hb dX11_needEngine_15 (by decide) (fun c_3 => ?_) (fun c_3 => ?_)
      · refine vx_ret (W.widen (k := 1) (n := 6) (Nat.le_of_ble_eq_true rfl) (Nat.le_of_ble_eq_true rfl) ?_)
        exact W.vret hx hb hr (fun t ht9 hW9 => ⟨⟨(), rfl, (Or.inr (Or.inr ⟨c_1, c_2, c_3⟩)), trivial⟩, hS.F ht9⟩) hS.2.2 dX11_needEngine_26 hlocks
      · exact thr0 hx hb hfl hown ht hK.2.2 hZ hAz hS hl hml htab hlocks (by decide +kernel) w_41 w_42 at_X11_116 dX11_needEngine_18 dX11_needEngine_21 dX11_needEngine_22 dX11_needEngine_25 rfl rfl rfl rfl (fun t _ hF => ⟨(), trivial, ⟨rfl, ⟨c_1, c_2, c_3⟩⟩, hF⟩) (fun _ h => h) rfl rfl
set_option maxHeartbeats 4000000 in
set_option maxRecDepth 100000 in
theorem k_X11_coverage (l : Launch) (hfl : l.stackTraces = false) (D : va_G) (g : Nat → ClassId) (z0 sz : Nat) (a : Nat → Nat) (p0 : Int32) (hc_p0 : isC p0) : vx_Met l yX11_coverage (.code yX11_coverage cX11_coverage 3 (some .float) :: TG) (rmk 7 2 12 102) (va_Pc [.ref (a 0), .int p0] (PP D g z0 sz [((a 0), f_x a), ((a 2), f_book a)])) (va_Qf (fun (r : UInt32) (u : Unit) => False) (fun (_ : Unit) (_ : State) => True) (va_A [] sz)) (vx_X (fun _ : Unit => True) (fun E _ _ => (E = "java/lang/IllegalArgumentException" ∧ ((¬ p0 = 115) ∧ (¬ p0 = 112) ∧ (¬ p0 = 100))) ∨ (E = "java/lang/ArithmeticException" ∧ ((p0 = 115) ∨ ((¬ p0 = 115) ∧ (p0 = 112)) ∨ ((¬ p0 = 115) ∧ (¬ p0 = 112) ∧ (p0 = 100))))) (va_A [] sz)) 2 12 (va_A [] sz) := by
  refine vxm0 (cc := cX11_coverage) (n := 3) (by decide) (Nat.le_of_ble_eq_true rfl) ?_
  intro p e s m args below meth c hx hb hr hml htab hown ht hlocks hnm hP0 hD0 hK hZ hsz hz ls hl
  subst hsz
  have hA : ∀ q : Nat, s.heap.size ≤ q → va_A [] s.heap.size q := Anw
  have hAz : ∀ q, va_A [] s.heap.size q → z0 ≤ q := A0z hz
  have hS : va_S (va_A [] s.heap.size) s.heap s.heap [] := va_S.rf
  have hl : lv_has ls 3 [(0, .ref (a 0)), (1, .int p0)] := hl
  refine lv_aload_n hx hb dX11_coverage_0 rfl (lv_at hl 0 rfl) ?_
  refine lv_iload_n hx hb dX11_coverage_1 rfl (lv_at hl 1 rfl) ?_
  have hPc : va_P D vwCl [] _ := (ro0 hP0 hS).sub (ws' := []) [] rfl
  have hDc : va_D (fun q => z0 ≤ q) [] := hD0.pick (ws' := []) [] (by decide) rfl
  have hFc := AnA (ws := []) hS.1
  refine vx_callv (vx_runV (As := [.int p0]) (rest := []) ⟨hx, hb, hml, hown, ht⟩ (k_X11_needEngine l hfl D g z0 _ a p0 hc_p0) (cwV 1 ht (gV w_160 w_162 w_163 w_31 w_161) rfl rfl rfl (by decide +kernel) (le2 rfl rfl)) ⟨PP.blind, va_recv hK.1 (ro0 hP0 hS) (ci := 17) (q0 := 0) rfl rfl, PP.mk' hK hZ hz hAz hS hPc hDc⟩ rfl rfl hl.1 rfl (lv_room (Nat.le_of_ble_eq_true rfl)) dX11_coverage_2 (le2 rfl rfl)) hS (fun q _ h => hFc q h) hFc (fun q _ h => hFc q h) (fun E ce q9 u t H locs ht1 hvm hw hB hz1 hk1 hS hcell hv9 hcl => ?_) (fun u t H locs ht1 hvm hw hB hz1 hk1 hS => ?_)
  · obtain ⟨rfl, hB⟩ := hB
    obtain ⟨c_1, c_2, c_3⟩ := hB
    exact out0 htab hlocks hS hcell hv9 hcl (fun t _ hF => ⟨(), trivial, (Or.inl ⟨rfl, ⟨c_1, c_2, c_3⟩⟩), hF⟩) (fun _ h => h) rfl rfl
  · rcases hw with hw | hw | hw
    · have c_4 := hw
      refine lv_aload_n hx hb dX11_coverage_5 rfl (lv_at hl 0 rfl) ?_
      refine va_get (D := D) (ci := 17) (v := .ref (a 2)) (C := RX11) (T := TX11) (N := 11) hx hb ht in_X11 hown hK.1 (ro0 hP0 hS) 0 rfl rfl 1 (by decide) (ht _ w_32) (fun _ h9 => h9) rfl dX11_coverage_6 ?_
      have hPc : va_P D vwCl [((a 2), f_book a)] _ := (ro0 hP0 hS).sub (ws' := [((a 2), f_book a)]) [1] rfl
      have hDc : va_D (fun q => z0 ≤ q) [((a 2), f_book a)] := hD0.pick (ws' := [((a 2), f_book a)]) [1] (by decide) rfl
      have hFc := AnA (ws := []) hS.1
      refine va_calli (va_runV (As := []) (rest := []) ⟨hx, hb, hml, hown, ht⟩ (k_X3_countClasses l D g z0 _ a) (cwV 0 ht (gV w_142 w_144 w_145 w_146 w_143) rfl rfl rfl (by decide +kernel) (le2 rfl rfl)) ⟨PP.blind, va_recv hK.1 (ro0 hP0 hS) (ci := 9) (q0 := 1) rfl rfl, PP.mk' hK hZ hz hAz hS hPc hDc⟩ rfl rfl hl.1 rfl (lv_room (Nat.le_of_ble_eq_true rfl)) dX11_coverage_9 (le2 rfl rfl)) hS (fun q _ h => hFc q h) hFc (fun r u t H locs ht1 hvm hw hB hz1 hk1 hS => ?_)
      obtain ⟨rfl, hw⟩ := hw
      refine lv_istore_n (lv' := [(2, .int 0), (0, .ref (a 0)), (1, .int p0)]) hx hb dX11_coverage_12 rfl hl (by decide) rfl (fun ls hl => ?_)
      refine lv_iload_n hx hb dX11_coverage_13 rfl (lv_at hl 0 rfl) ?_
      refine lv_if_ne (tgt := 25) hx hb dX11_coverage_14 (by decide) (fun c_5 => ?_) (fun c_5 => ?_)
      · exact absurd c_5 (by decide)
      · exact thr0 hx hb hfl hown ht hK.2.2 hZ hAz hS hl hml htab hlocks (by decide +kernel) w_164 w_165 at_X11_269 dX11_coverage_17 dX11_coverage_20 dX11_coverage_21 dX11_coverage_24 rfl rfl rfl rfl (fun t _ hF => ⟨(), trivial, (Or.inr ⟨rfl, (Or.inl c_4)⟩), hF⟩) (fun _ h => h) rfl rfl
    · obtain ⟨c_6, c_7⟩ := hw
      refine lv_aload_n hx hb dX11_coverage_5 rfl (lv_at hl 0 rfl) ?_
      refine va_get (D := D) (ci := 17) (v := .ref (a 2)) (C := RX11) (T := TX11) (N := 11) hx hb ht in_X11 hown hK.1 (ro0 hP0 hS) 0 rfl rfl 1 (by decide) (ht _ w_32) (fun _ h9 => h9) rfl dX11_coverage_6 ?_
      have hPc : va_P D vwCl [((a 2), f_book a)] _ := (ro0 hP0 hS).sub (ws' := [((a 2), f_book a)]) [1] rfl
      have hDc : va_D (fun q => z0 ≤ q) [((a 2), f_book a)] := hD0.pick (ws' := [((a 2), f_book a)]) [1] (by decide) rfl
      have hFc := AnA (ws := []) hS.1
      refine va_calli (va_runV (As := []) (rest := []) ⟨hx, hb, hml, hown, ht⟩ (k_X3_countClasses l D g z0 _ a) (cwV 0 ht (gV w_142 w_144 w_145 w_146 w_143) rfl rfl rfl (by decide +kernel) (le2 rfl rfl)) ⟨PP.blind, va_recv hK.1 (ro0 hP0 hS) (ci := 9) (q0 := 1) rfl rfl, PP.mk' hK hZ hz hAz hS hPc hDc⟩ rfl rfl hl.1 rfl (lv_room (Nat.le_of_ble_eq_true rfl)) dX11_coverage_9 (le2 rfl rfl)) hS (fun q _ h => hFc q h) hFc (fun r u t H locs ht1 hvm hw hB hz1 hk1 hS => ?_)
      obtain ⟨rfl, hw⟩ := hw
      refine lv_istore_n (lv' := [(2, .int 0), (0, .ref (a 0)), (1, .int p0)]) hx hb dX11_coverage_12 rfl hl (by decide) rfl (fun ls hl => ?_)
      refine lv_iload_n hx hb dX11_coverage_13 rfl (lv_at hl 0 rfl) ?_
      refine lv_if_ne (tgt := 25) hx hb dX11_coverage_14 (by decide) (fun c_8 => ?_) (fun c_8 => ?_)
      · exact absurd c_8 (by decide)
      · exact thr0 hx hb hfl hown ht hK.2.2 hZ hAz hS hl hml htab hlocks (by decide +kernel) w_164 w_165 at_X11_269 dX11_coverage_17 dX11_coverage_20 dX11_coverage_21 dX11_coverage_24 rfl rfl rfl rfl (fun t _ hF => ⟨(), trivial, (Or.inr ⟨rfl, (Or.inr (Or.inl ⟨c_6, c_7⟩))⟩), hF⟩) (fun _ h => h) rfl rfl
    · obtain ⟨c_9, c_10, c_11⟩ := hw
      refine lv_aload_n hx hb dX11_coverage_5 rfl (lv_at hl 0 rfl) ?_
      refine va_get (D := D) (ci := 17) (v := .ref (a 2)) (C := RX11) (T := TX11) (N := 11) hx hb ht in_X11 hown hK.1 (ro0 hP0 hS) 0 rfl rfl 1 (by decide) (ht _ w_32) (fun _ h9 => h9) rfl dX11_coverage_6 ?_
      have hPc : va_P D vwCl [((a 2), f_book a)] _ := (ro0 hP0 hS).sub (ws' := [((a 2), f_book a)]) [1] rfl
      have hDc : va_D (fun q => z0 ≤ q) [((a 2), f_book a)] := hD0.pick (ws' := [((a 2), f_book a)]) [1] (by decide) rfl
      have hFc := AnA (ws := []) hS.1
      refine va_calli (va_runV (As := []) (rest := []) ⟨hx, hb, hml, hown, ht⟩ (k_X3_countClasses l D g z0 _ a) (cwV 0 ht (gV w_142 w_144 w_145 w_146 w_143) rfl rfl rfl (by decide +kernel) (le2 rfl rfl)) ⟨PP.blind, va_recv hK.1 (ro0 hP0 hS) (ci := 9) (q0 := 1) rfl rfl, PP.mk' hK hZ hz hAz hS hPc hDc⟩ rfl rfl hl.1 rfl (lv_room (Nat.le_of_ble_eq_true rfl)) dX11_coverage_9 (le2 rfl rfl)) hS (fun q _ h => hFc q h) hFc (fun r u t H locs ht1 hvm hw hB hz1 hk1 hS => ?_)
      obtain ⟨rfl, hw⟩ := hw
      refine lv_istore_n (lv' := [(2, .int 0), (0, .ref (a 0)), (1, .int p0)]) hx hb dX11_coverage_12 rfl hl (by decide) rfl (fun ls hl => ?_)
      refine lv_iload_n hx hb dX11_coverage_13 rfl (lv_at hl 0 rfl) ?_
      refine lv_if_ne (tgt := 25) hx hb dX11_coverage_14 (by decide) (fun c_12 => ?_) (fun c_12 => ?_)
      · exact absurd c_12 (by decide)
      · exact thr0 hx hb hfl hown ht hK.2.2 hZ hAz hS hl hml htab hlocks (by decide +kernel) w_164 w_165 at_X11_269 dX11_coverage_17 dX11_coverage_20 dX11_coverage_21 dX11_coverage_24 rfl rfl rfl rfl (fun t _ hF => ⟨(), trivial, (Or.inr ⟨rfl, (Or.inr (Or.inr ⟨c_9, c_10, c_11⟩))⟩), hF⟩) (fun _ h => h) rfl rfl
set_option maxHeartbeats 4000000 in
set_option maxRecDepth 100000 in
theorem k_X11_cycles (l : Launch) (D : va_G) (g : Nat → ClassId) (z0 sz : Nat) (a : Nat → Nat) : Met l yX11_cycles (.code yX11_cycles cX11_cycles 1 (some .int) :: TG) (rmk 0 0 0 0) (va_Pc [.ref (a 0)] (PP D g z0 sz [((a 0), f_x a), ((a 1), f_net a), ((a 3), f_rows a)])) (va_Qi (fun (r : Int32) (u : Unit) => (r = 0) ∧ True) (fun (_ : Unit) (_ : State) => True) (va_A [] sz)) 0 0 (va_A [] sz) := by
  refine met0 (cc := cX11_cycles) (n := 1) (by decide) (Nat.le_of_ble_eq_true rfl) ?_
  intro p e s m args below meth c hx hb hr hml hown ht hlocks hnm hP0 hD0 hK hZ hsz hz ls hl
  subst hsz
  have hA : ∀ q : Nat, s.heap.size ≤ q → va_A [] s.heap.size q := Anw
  have hAz : ∀ q, va_A [] s.heap.size q → z0 ≤ q := A0z hz
  have hS : va_S (va_A [] s.heap.size) s.heap s.heap [] := va_S.rf
  have hl : lv_has ls 1 [(0, .ref (a 0))] := hl
  refine lv_aload_n hx hb dX11_cycles_0 rfl (lv_at hl 0 rfl) ?_
  refine va_get (D := D) (ci := 17) (v := .ref (a 1)) (C := RX11) (T := TX11) (N := 11) hx hb ht in_X11 hown hK.1 (ro0 hP0 hS) 0 rfl rfl 0 (by decide) (ht _ w_66) (fun _ h9 => h9) rfl dX11_cycles_1 ?_
  refine va_get (D := D) (ci := 12) (v := .int 0) (C := RX6) (T := TX6) (N := 18) hx hb ht in_X6 hown hK.1 (ro0 hP0 hS) 1 rfl rfl 14 (by decide) (ht _ w_67) (fun _ h9 => h9) rfl dX11_cycles_4 ?_
  refine lv_iconst (v := 1) hx hb dX11_cycles_7 (by decide) ?_
  refine lv_iadd hx hb dX11_cycles_8 ?_
  refine r_topi (v := 1) (by decide) ?_
  refine lv_aload_n hx hb dX11_cycles_9 rfl (lv_at hl 0 rfl) ?_
  refine va_get (D := D) (ci := 17) (v := .ref (a 3)) (C := RX11) (T := TX11) (N := 11) hx hb ht in_X11 hown hK.1 (ro0 hP0 hS) 0 rfl rfl 2 (by decide) (ht _ w_1) (fun _ h9 => h9) rfl dX11_cycles_10 ?_
  refine va_get (D := D) (ci := 13) (v := .int 0) (C := RX7) (T := TX7) (N := 6) hx hb ht in_X7 hown hK.1 (ro0 hP0 hS) 2 rfl rfl 5 (by decide) (ht _ w_26) (fun _ h9 => h9) rfl dX11_cycles_13 ?_
  refine lv_imul hx hb dX11_cycles_16 ?_
  refine r_topi (v := 0) (by decide) ?_
  refine lv_aload_n hx hb dX11_cycles_17 rfl (lv_at hl 0 rfl) ?_
  refine va_get (D := D) (ci := 17) (v := .ref (a 1)) (C := RX11) (T := TX11) (N := 11) hx hb ht in_X11 hown hK.1 (ro0 hP0 hS) 0 rfl rfl 0 (by decide) (ht _ w_66) (fun _ h9 => h9) rfl dX11_cycles_18 ?_
  refine va_get (D := D) (ci := 12) (v := .int 0) (C := RX6) (T := TX6) (N := 18) hx hb ht in_X6 hown hK.1 (ro0 hP0 hS) 1 rfl rfl 14 (by decide) (ht _ w_67) (fun _ h9 => h9) rfl dX11_cycles_21 ?_
  refine lv_iadd hx hb dX11_cycles_24 ?_
  refine r_topi (v := 0) (by decide) ?_
  refine W.widen (k := 0) (n := 0) (Nat.le_of_ble_eq_true rfl) (Nat.le_of_ble_eq_true rfl) ?_
  exact W.iret (v := 0) hx hb hr (fun t ht9 hW9 => ⟨⟨0, (), rfl, ⟨rfl, trivial⟩, trivial⟩, hS.F ht9⟩) hS.2.2 dX11_cycles_25 hlocks
set_option maxHeartbeats 4000000 in
set_option maxRecDepth 100000 in
theorem k_X11_data (l : Launch) (hfl : l.stackTraces = false) (D : va_G) (g : Nat → ClassId) (z0 sz : Nat) (a : Nat → Nat) (p0 : Int32) (p1 : Int32) : vx_Met l yX11_data (.code yX11_data cX11_data 4 (some .int) :: TG) (rmk 7 1 6 102) (va_Pc [.ref (a 0), .int p0, .int p1] (PP D g z0 sz [((a 0), f_x a), ((a 1), f_net a)])) (va_Qi (fun (r : Int32) (u : Unit) => False) (fun (_ : Unit) (_ : State) => True) (va_A [] sz)) (vx_X (fun _ : Unit => True) (fun E _ _ => (E = "java/lang/IndexOutOfBoundsException" ∧ True)) (va_A [] sz)) 1 6 (va_A [] sz) := by
  refine vxm0 (cc := cX11_data) (n := 4) (by decide) (Nat.le_of_ble_eq_true rfl) ?_
  intro p e s m args below meth c hx hb hr hml htab hown ht hlocks hnm hP0 hD0 hK hZ hsz hz ls hl
  subst hsz
  have hA : ∀ q : Nat, s.heap.size ≤ q → va_A [] s.heap.size q := Anw
  have hAz : ∀ q, va_A [] s.heap.size q → z0 ≤ q := A0z hz
  have hS : va_S (va_A [] s.heap.size) s.heap s.heap [] := va_S.rf
  have hl : lv_has ls 4 [(0, .ref (a 0)), (1, .int p0), (2, .int p1)] := hl
  refine lv_aload_n hx hb dX11_data_0 rfl (lv_at hl 0 rfl) ?_
  refine lv_iload_n hx hb dX11_data_1 rfl (lv_at hl 1 rfl) ?_
  have hPc : va_P D vwCl [((a 0), f_x a), ((a 1), f_net a)] _ := (ro0 hP0 hS).sub (ws' := [((a 0), f_x a), ((a 1), f_net a)]) [0, 1] rfl
  have hDc : va_D (fun q => z0 ≤ q) [((a 0), f_x a), ((a 1), f_net a)] := hD0.pick (ws' := [((a 0), f_x a), ((a 1), f_net a)]) [0, 1] (by decide) rfl
  have hFc := AnA (ws := []) hS.1
  refine vx_callv (vx_runV (As := [.int p0]) (rest := []) ⟨hx, hb, hml, hown, ht⟩ (k_X11_needLine l hfl D g z0 _ a p0) (cwV 1 ht (gV w_80 w_82 w_83 w_31 w_81) rfl rfl rfl (by decide +kernel) (le2 rfl rfl)) ⟨PP.blind, va_recv hK.1 (ro0 hP0 hS) (ci := 17) (q0 := 0) rfl rfl, PP.mk' hK hZ hz hAz hS hPc hDc⟩ rfl rfl hl.1 rfl (lv_room (Nat.le_of_ble_eq_true rfl)) dX11_data_2 (le2 rfl rfl)) hS (fun q _ h => hFc q h) hFc (fun q _ h => hFc q h) (fun E ce q9 u t H locs ht1 hvm hw hB hz1 hk1 hS hcell hv9 hcl => ?_) (fun u t H locs ht1 hvm hw hB hz1 hk1 hS => ?_)
  · obtain ⟨rfl, hB⟩ := hB
    exact out0 htab hlocks hS hcell hv9 hcl (fun t _ hF => ⟨(), trivial, ⟨rfl, trivial⟩, hF⟩) (fun _ h => h) rfl rfl
  · exact hw.elim
set_option maxHeartbeats 4000000 in
set_option maxRecDepth 100000 in
theorem k_X11_eraseMarch (l : Launch) (D : va_G) (g : Nat → ClassId) (z0 sz : Nat) (a : Nat → Nat) : Met l yX11_eraseMarch (.code yX11_eraseMarch cX11_eraseMarch 2 (some .int) :: TG) (rmk 0 0 0 0) (va_Pc [.ref (a 0)] (PP D g z0 sz [((a 0), f_x a), ((a 9), f_memory a)])) (va_Qi (fun (r : Int32) (u : Unit) => (r = 0) ∧ True) (fun (u : Unit) (t : State) => va_P D vwCl [] t.heap ∧ va_D (va_A [((a 0), f_x a), ((a 9), f_memory a)] sz) []) (va_A [((a 0), f_x a), ((a 9), f_memory a)] sz)) 0 0 (va_A [((a 0), f_x a), ((a 9), f_memory a)] sz) := by
  refine met0 (cc := cX11_eraseMarch) (n := 2) (by decide) (Nat.le_of_ble_eq_true rfl) ?_
  intro p e s m args below meth c hx hb hr hml hown ht hlocks hnm hP0 hD0 hK hZ hsz hz ls hl
  subst hsz
  have hA : ∀ q : Nat, s.heap.size ≤ q → va_A [((a 0), f_x a), ((a 9), f_memory a)] s.heap.size q := Anw
  have hAz : ∀ q, va_A [((a 0), f_x a), ((a 9), f_memory a)] s.heap.size q → z0 ≤ q := Awz hz hD0
  have hS : va_S (va_A [((a 0), f_x a), ((a 9), f_memory a)] s.heap.size) s.heap s.heap [] := va_S.rf
  have hD : va_D (va_A [((a 0), f_x a), ((a 9), f_memory a)] s.heap.size) [((a 0), f_x a), ((a 9), f_memory a)] := hD0.self
  have hP : va_P D vwCl [((a 0), f_x a), ((a 9), f_memory a)] s.heap := hP0
  have hl : lv_has ls 2 [(0, .ref (a 0))] := hl
  refine lv_aload_n hx hb dX11_eraseMarch_0 rfl (lv_at hl 0 rfl) ?_
  refine va_get (D := D) (ci := 17) (v := .ref (a 9)) (C := RX11) (T := TX11) (N := 11) hx hb ht in_X11 hown hK.1 hP 0 rfl rfl 8 (by decide) (ht _ w_166) (fun _ h9 => h9) rfl dX11_eraseMarch_1 ?_
  refine va_get (D := D) (ci := 11) (v := .int 0) (C := RX5) (T := TX5) (N := 9) hx hb ht in_X5 hown hK.1 hP 1 rfl rfl 2 (by decide) (ht _ w_167) (fun _ h9 => h9) rfl dX11_eraseMarch_4 ?_
  refine lv_istore_n (lv' := [(1, .int 0), (0, .ref (a 0))]) hx hb dX11_eraseMarch_7 rfl hl (by decide) rfl (fun ls hl => ?_)
  refine lv_aload_n hx hb dX11_eraseMarch_8 rfl (lv_at hl 1 rfl) ?_
  refine va_get (D := D) (ci := 17) (v := .ref (a 9)) (C := RX11) (T := TX11) (N := 11) hx hb ht in_X11 hown hK.1 hP 0 rfl rfl 8 (by decide) (ht _ w_166) (fun _ h9 => h9) rfl dX11_eraseMarch_9 ?_
  refine lv_iconst (v := 0) hx hb dX11_eraseMarch_12 (by decide) ?_
  refine va_put (D := D) (ci := 11) (v := .int 0) (ty := .int) (C := RX5) (T := TX5) (N := 9) hx hb ht in_X5 tyX5 tyX5_ok nmX5 hown hK.1 hP hD hS 1 rfl rfl 2 (by decide) (ht _ w_167) (fun _ h9 => h9) rfl (by decide +kernel) rfl rfl (Nat.le_of_ble_eq_true rfl) dX11_eraseMarch_13 (fun H locs hP hD hS => ?_)
  have hP : va_P D vwCl [((a 0), f_x a), ((a 9), .inr (11, [.ref (a 59), .ref (a 60), .int 0, .int 45, .int 0, .int 0, .int 0, .int 0, .int 0]))] H := hP
  have hD : va_D (va_A [((a 0), f_x a), ((a 9), f_memory a)] s.heap.size) [((a 0), f_x a), ((a 9), .inr (11, [.ref (a 59), .ref (a 60), .int 0, .int 45, .int 0, .int 0, .int 0, .int 0, .int 0]))] := hD
  refine lv_iload_n hx hb dX11_eraseMarch_16 rfl (lv_at hl 0 rfl) ?_
  have hP9 := hP.sub (ws' := []) [] rfl
  have hD9 := hD.sub (ws' := []) [] (by decide) rfl
  refine W.widen (k := 0) (n := 0) (Nat.le_of_ble_eq_true rfl) (Nat.le_of_ble_eq_true rfl) ?_
  exact W.iret (v := 0) hx hb hr (fun t ht9 hW9 => ⟨⟨0, (), rfl, ⟨rfl, trivial⟩, ⟨(by rw [ht9]; exact hP9), hD9⟩⟩, hS.F ht9⟩) hS.2.2 dX11_eraseMarch_17 hlocks
set_option maxHeartbeats 4000000 in
set_option maxRecDepth 100000 in
theorem k_X10_findAll (l : Launch) (D : va_G) (g : Nat → ClassId) (z0 sz : Nat) (a : Nat → Nat) : Met l yX10_findAll (.code yX10_findAll cX10_findAll 3 none :: TG) (rmk 3 0 0 68) (va_Pc [.ref (a 4), .ref (a 3)] (PP D g z0 sz [((a 3), f_rows a), ((a 4), f_words a), ((a 38), .inl (g 1, 12, .inr (.inl (fun _ => 0)))), ((a 39), .inl (g 1, 12, .inr (.inl (fun _ => 0)))), ((a 1), f_net a), ((a 2), f_book a)])) (va_Qv (fun (u : Unit) => True) (fun (u : Unit) (t : State) => va_P D vwCl [((a 2), f_book a), ((a 3), f_rows a), ((a 38), .inl (g 1, 12, .inr (.inl (fun _ => 0)))), ((a 39), .inl (g 1, 12, .inr (.inl (fun _ => 0)))), ((a 4), f_words a), ((a 1), f_net a)] t.heap ∧ va_D (va_A [((a 3), f_rows a), ((a 4), f_words a), ((a 38), .inl (g 1, 12, .inr (.inl (fun _ => 0)))), ((a 39), .inl (g 1, 12, .inr (.inl (fun _ => 0)))), ((a 1), f_net a), ((a 2), f_book a)] sz) [((a 2), f_book a), ((a 3), f_rows a), ((a 38), .inl (g 1, 12, .inr (.inl (fun _ => 0)))), ((a 39), .inl (g 1, 12, .inr (.inl (fun _ => 0)))), ((a 4), f_words a), ((a 1), f_net a)]) (va_A [((a 3), f_rows a), ((a 4), f_words a), ((a 38), .inl (g 1, 12, .inr (.inl (fun _ => 0)))), ((a 39), .inl (g 1, 12, .inr (.inl (fun _ => 0)))), ((a 1), f_net a), ((a 2), f_book a)] sz)) 0 0 (va_A [((a 3), f_rows a), ((a 4), f_words a), ((a 38), .inl (g 1, 12, .inr (.inl (fun _ => 0)))), ((a 39), .inl (g 1, 12, .inr (.inl (fun _ => 0)))), ((a 1), f_net a), ((a 2), f_book a)] sz) := by
  refine met0 (cc := cX10_findAll) (n := 3) (by decide) (Nat.le_of_ble_eq_true rfl) ?_
  intro p e s m args below meth c hx hb hr hml hown ht hlocks hnm hP0 hD0 hK hZ hsz hz ls hl
  subst hsz
  have hA : ∀ q : Nat, s.heap.size ≤ q → va_A [((a 3), f_rows a), ((a 4), f_words a), ((a 38), .inl (g 1, 12, .inr (.inl (fun _ => 0)))), ((a 39), .inl (g 1, 12, .inr (.inl (fun _ => 0)))), ((a 1), f_net a), ((a 2), f_book a)] s.heap.size q := Anw
  have hAz : ∀ q, va_A [((a 3), f_rows a), ((a 4), f_words a), ((a 38), .inl (g 1, 12, .inr (.inl (fun _ => 0)))), ((a 39), .inl (g 1, 12, .inr (.inl (fun _ => 0)))), ((a 1), f_net a), ((a 2), f_book a)] s.heap.size q → z0 ≤ q := Awz hz hD0
  have hS : va_S (va_A [((a 3), f_rows a), ((a 4), f_words a), ((a 38), .inl (g 1, 12, .inr (.inl (fun _ => 0)))), ((a 39), .inl (g 1, 12, .inr (.inl (fun _ => 0)))), ((a 1), f_net a), ((a 2), f_book a)] s.heap.size) s.heap s.heap [] := va_S.rf
  have hD : va_D (va_A [((a 3), f_rows a), ((a 4), f_words a), ((a 38), .inl (g 1, 12, .inr (.inl (fun _ => 0)))), ((a 39), .inl (g 1, 12, .inr (.inl (fun _ => 0)))), ((a 1), f_net a), ((a 2), f_book a)] s.heap.size) [((a 3), f_rows a), ((a 4), f_words a), ((a 38), .inl (g 1, 12, .inr (.inl (fun _ => 0)))), ((a 39), .inl (g 1, 12, .inr (.inl (fun _ => 0)))), ((a 1), f_net a), ((a 2), f_book a)] := hD0.self
  have hP : va_P D vwCl [((a 3), f_rows a), ((a 4), f_words a), ((a 38), .inl (g 1, 12, .inr (.inl (fun _ => 0)))), ((a 39), .inl (g 1, 12, .inr (.inl (fun _ => 0)))), ((a 1), f_net a), ((a 2), f_book a)] s.heap := hP0
  have hl : lv_has ls 3 [(0, .ref (a 4)), (1, .ref (a 3))] := hl
  refine lv_aload_n hx hb dX10_findAll_0 rfl (lv_at hl 0 rfl) ?_
  refine lv_aload_n hx hb dX10_findAll_1 rfl (lv_at hl 1 rfl) ?_
  have hPc : va_P D vwCl [((a 3), f_rows a), ((a 4), f_words a), ((a 38), .inl (g 1, 12, .inr (.inl (fun _ => 0)))), ((a 39), .inl (g 1, 12, .inr (.inl (fun _ => 0))))] _ := hP.sub (ws' := [((a 3), f_rows a), ((a 4), f_words a), ((a 38), .inl (g 1, 12, .inr (.inl (fun _ => 0)))), ((a 39), .inl (g 1, 12, .inr (.inl (fun _ => 0))))]) [0, 1, 2, 3] rfl
  have hDc : va_D (fun q => z0 ≤ q) [((a 3), f_rows a), ((a 4), f_words a), ((a 38), .inl (g 1, 12, .inr (.inl (fun _ => 0)))), ((a 39), .inl (g 1, 12, .inr (.inl (fun _ => 0))))] := (hD.to hAz).pick (ws' := [((a 3), f_rows a), ((a 4), f_words a), ((a 38), .inl (g 1, 12, .inr (.inl (fun _ => 0)))), ((a 39), .inl (g 1, 12, .inr (.inl (fun _ => 0))))]) [0, 1, 2, 3] (by decide) rfl
  have hFc := va_free (wc := [((a 3), f_rows a), ((a 4), f_words a), ((a 38), .inl (g 1, 12, .inr (.inl (fun _ => 0)))), ((a 39), .inl (g 1, 12, .inr (.inl (fun _ => 0))))]) hD hS hA [0, 1, 2, 3] rfl
  refine va_callv (va_runV (As := [.ref (a 3)]) (rest := []) ⟨hx, hb, hml, hown, ht⟩ (k_X10_loadRows l D g z0 _ a) (cwV 1 ht (gV w_168 w_17 w_18 w_14 w_16) rfl rfl rfl (by decide +kernel) (le2 rfl rfl)) ⟨PP.blind, va_recv hK.1 hP (ci := 16) (q0 := 1) rfl rfl, PP.mk' hK hZ hz hAz hS hPc hDc⟩ rfl rfl hl.1 rfl (lv_room (Nat.le_of_ble_eq_true rfl)) dX10_findAll_2 (le2 rfl rfl)) hS (fun q _ h => hFc q h) hFc (fun u t H locs ht1 hvm hw hB hz1 hk1 hS => ?_)
  obtain ⟨hP1, hD1⟩ := hB
  rw [ht1] at hP1
  obtain ⟨hP, hD⟩ := va_join (wr := [((a 1), f_net a), ((a 2), f_book a)]) (w1 := [((a 3), f_rows a), ((a 4), f_words a), ((a 38), .inl (g 1, 12, .inr (.inl (fun _ => 0)))), ((a 39), .inl (g 1, 12, .inr (.inl (fun _ => 0))))]) hP hD [0, 1, 2, 3] [4, 5] rfl rfl (by decide) (by decide) hk1 hFc hP1 hD1
  have hP : va_P D vwCl [((a 1), f_net a), ((a 2), f_book a), ((a 3), f_rows a), ((a 4), f_words a), ((a 38), .inl (g 1, 12, .inr (.inl (fun _ => 0)))), ((a 39), .inl (g 1, 12, .inr (.inl (fun _ => 0))))] H := hP
  have hD : va_D (va_A [((a 3), f_rows a), ((a 4), f_words a), ((a 38), .inl (g 1, 12, .inr (.inl (fun _ => 0)))), ((a 39), .inl (g 1, 12, .inr (.inl (fun _ => 0)))), ((a 1), f_net a), ((a 2), f_book a)] s.heap.size) [((a 1), f_net a), ((a 2), f_book a), ((a 3), f_rows a), ((a 4), f_words a), ((a 38), .inl (g 1, 12, .inr (.inl (fun _ => 0)))), ((a 39), .inl (g 1, 12, .inr (.inl (fun _ => 0))))] := hD
  refine lv_aload_n hx hb dX10_findAll_5 rfl (lv_at hl 0 rfl) ?_
  have hPc : va_P D vwCl [((a 4), f_words a), ((a 1), f_net a)] _ := hP.sub (ws' := [((a 4), f_words a), ((a 1), f_net a)]) [3, 0] rfl
  have hDc : va_D (fun q => z0 ≤ q) [((a 4), f_words a), ((a 1), f_net a)] := (hD.to hAz).pick (ws' := [((a 4), f_words a), ((a 1), f_net a)]) [3, 0] (by decide) rfl
  have hFc := va_free (wc := [((a 4), f_words a), ((a 1), f_net a)]) hD hS hA [3, 0] rfl
  refine va_callv (va_runV (As := []) (rest := []) ⟨hx, hb, hml, hown, ht⟩ (k_X10_runGood l D g z0 _ a) (cwV 0 ht (gV w_169 w_24 w_25 w_14 w_23) rfl rfl rfl (by decide +kernel) (le2 rfl rfl)) ⟨PP.blind, va_recv hK.1 hP (ci := 16) (q0 := 3) rfl rfl, PP.mk' hK hZ hz hAz hS hPc hDc⟩ rfl rfl hl.1 rfl (lv_room (Nat.le_of_ble_eq_true rfl)) dX10_findAll_6 (le2 rfl rfl)) hS (fun q _ h => hFc q h) hFc (fun u t H locs ht1 hvm hw hB hz1 hk1 hS => ?_)
  obtain ⟨hP1, hD1⟩ := hB
  rw [ht1] at hP1
  obtain ⟨hP, hD⟩ := va_join (wr := [((a 2), f_book a), ((a 3), f_rows a), ((a 38), .inl (g 1, 12, .inr (.inl (fun _ => 0)))), ((a 39), .inl (g 1, 12, .inr (.inl (fun _ => 0))))]) (w1 := [((a 4), f_words a), ((a 1), f_net a)]) hP hD [3, 0] [1, 2, 4, 5] rfl rfl (by decide) (by decide) hk1 hFc hP1 hD1
  have hP : va_P D vwCl [((a 2), f_book a), ((a 3), f_rows a), ((a 38), .inl (g 1, 12, .inr (.inl (fun _ => 0)))), ((a 39), .inl (g 1, 12, .inr (.inl (fun _ => 0)))), ((a 4), f_words a), ((a 1), f_net a)] H := hP
  have hD : va_D (va_A [((a 3), f_rows a), ((a 4), f_words a), ((a 38), .inl (g 1, 12, .inr (.inl (fun _ => 0)))), ((a 39), .inl (g 1, 12, .inr (.inl (fun _ => 0)))), ((a 1), f_net a), ((a 2), f_book a)] s.heap.size) [((a 2), f_book a), ((a 3), f_rows a), ((a 38), .inl (g 1, 12, .inr (.inl (fun _ => 0)))), ((a 39), .inl (g 1, 12, .inr (.inl (fun _ => 0)))), ((a 4), f_words a), ((a 1), f_net a)] := hD
  refine lv_iconst (v := 0) hx hb dX10_findAll_9 (by decide) ?_
  refine lv_istore_n (lv' := [(2, .int 0), (0, .ref (a 4)), (1, .ref (a 3))]) hx hb dX10_findAll_10 rfl hl (by decide) rfl (fun ls hl => ?_)
  refine lv_iload_n hx hb dX10_findAll_11 rfl (lv_at hl 0 rfl) ?_
  refine lv_aload_n hx hb dX10_findAll_12 rfl (lv_at hl 1 rfl) ?_
  refine va_get (D := D) (ci := 16) (v := .ref (a 2)) (C := RX10) (T := TX10) (N := 17) hx hb ht in_X10 hown hK.1 hP 4 rfl rfl 1 (by decide) (ht _ w_170) (fun _ h9 => h9) rfl dX10_findAll_13 ?_
  refine va_get (D := D) (ci := 9) (v := .int 0) (C := RX3) (T := TX3) (N := 14) hx hb ht in_X3 hown hK.1 hP 0 rfl rfl 10 (by decide) (ht _ w_171) (fun _ h9 => h9) rfl dX10_findAll_16 ?_
  refine lv_icmp_ge (tgt := 39) hx hb dX10_findAll_19 (by decide) (fun c_1 => ?_) (fun c_1 => ?_)
  · have hP9 := hP.sub (ws' := [((a 2), f_book a), ((a 3), f_rows a), ((a 38), .inl (g 1, 12, .inr (.inl (fun _ => 0)))), ((a 39), .inl (g 1, 12, .inr (.inl (fun _ => 0)))), ((a 4), f_words a), ((a 1), f_net a)]) [0, 1, 2, 3, 4, 5] rfl
    have hD9 := hD.sub (ws' := [((a 2), f_book a), ((a 3), f_rows a), ((a 38), .inl (g 1, 12, .inr (.inl (fun _ => 0)))), ((a 39), .inl (g 1, 12, .inr (.inl (fun _ => 0)))), ((a 4), f_words a), ((a 1), f_net a)]) [0, 1, 2, 3, 4, 5] (by decide) rfl
    refine W.widen (k := 0) (n := 0) (Nat.le_of_ble_eq_true rfl) (Nat.le_of_ble_eq_true rfl) ?_
    exact W.vret hx hb hr (fun t ht9 hW9 => ⟨⟨(), rfl, trivial, ⟨(by rw [ht9]; exact hP9), hD9⟩⟩, hS.F ht9⟩) hS.2.2 dX10_findAll_39 hlocks
  · exact absurd c_1 (by decide)
set_option maxHeartbeats 4000000 in
set_option maxRecDepth 100000 in
theorem k_X7_putInOrder (l : Launch) (D : va_G) (g : Nat → ClassId) (z0 sz : Nat) (a : Nat → Nat) : Met l yX7_putInOrder (.code yX7_putInOrder cX7_putInOrder 6 none :: TG) (rmk 0 0 0 0) (va_Pc [.ref (a 3), .ref (a 4), .ref (a 2)] (PP D g z0 sz [((a 2), f_book a), ((a 3), f_rows a)])) (va_Qv (fun (u : Unit) => True) (fun (_ : Unit) (_ : State) => True) (va_A [] sz)) 0 0 (va_A [] sz) := by
  refine met0 (cc := cX7_putInOrder) (n := 6) (by decide) (Nat.le_of_ble_eq_true rfl) ?_
  intro p e s m args below meth c hx hb hr hml hown ht hlocks hnm hP0 hD0 hK hZ hsz hz ls hl
  subst hsz
  have hA : ∀ q : Nat, s.heap.size ≤ q → va_A [] s.heap.size q := Anw
  have hAz : ∀ q, va_A [] s.heap.size q → z0 ≤ q := A0z hz
  have hS : va_S (va_A [] s.heap.size) s.heap s.heap [] := va_S.rf
  have hl : lv_has ls 6 [(0, .ref (a 3)), (1, .ref (a 4)), (2, .ref (a 2))] := hl
  refine lv_iconst (v := 0) hx hb dX7_putInOrder_0 (by decide) ?_
  refine lv_istore_n (lv' := [(3, .int 0), (0, .ref (a 3)), (1, .ref (a 4)), (2, .ref (a 2))]) hx hb dX7_putInOrder_1 rfl hl (by decide) rfl (fun ls hl => ?_)
  refine lv_iload_n hx hb dX7_putInOrder_2 rfl (lv_at hl 0 rfl) ?_
  refine lv_aload_n hx hb dX7_putInOrder_3 rfl (lv_at hl 3 rfl) ?_
  refine va_get (D := D) (ci := 9) (v := .int 0) (C := RX3) (T := TX3) (N := 14) hx hb ht in_X3 hown hK.1 (ro0 hP0 hS) 0 rfl rfl 11 (by decide) (ht _ w_176) (fun _ h9 => h9) rfl dX7_putInOrder_4 ?_
  refine lv_icmp_ge (tgt := 41) hx hb dX7_putInOrder_7 (by decide) (fun c_1 => ?_) (fun c_1 => ?_)
  · refine lv_lconst (v := 0) hx hb dX7_putInOrder_41 (by decide) ?_
    refine lv_lstore_n (lv' := [(3, .long 0), (0, .ref (a 3)), (1, .ref (a 4)), (2, .ref (a 2))]) hx hb dX7_putInOrder_42 rfl hl (by decide) rfl (fun ls hl => ?_)
    refine lv_iconst (v := 0) hx hb dX7_putInOrder_43 (by decide) ?_
    refine lv_istore (lv' := [(5, .int 0), (3, .long 0), (0, .ref (a 3)), (1, .ref (a 4)), (2, .ref (a 2))]) hx hb dX7_putInOrder_44 hl (by decide) rfl (fun ls hl => ?_)
    refine lv_iload hx hb dX7_putInOrder_46 (lv_at hl 0 rfl) ?_
    refine lv_aload_n hx hb dX7_putInOrder_48 rfl (lv_at hl 2 rfl) ?_
    refine va_get (D := D) (ci := 13) (v := .int 0) (C := RX7) (T := TX7) (N := 6) hx hb ht in_X7 hown hK.1 (ro0 hP0 hS) 1 rfl rfl 5 (by decide) (ht _ w_177) (fun _ h9 => h9) rfl dX7_putInOrder_49 ?_
    refine lv_icmp_ge (tgt := 87) hx hb dX7_putInOrder_52 (by decide) (fun c_2 => ?_) (fun c_2 => ?_)
    · refine W.widen (k := 0) (n := 0) (Nat.le_of_ble_eq_true rfl) (Nat.le_of_ble_eq_true rfl) ?_
      exact W.vret hx hb hr (fun t ht9 hW9 => ⟨⟨(), rfl, trivial, trivial⟩, hS.F ht9⟩) hS.2.2 dX7_putInOrder_87 hlocks
    · exact absurd c_2 (by decide)
  · exact absurd c_1 (by decide)
set_option maxHeartbeats 4000000 in
set_option maxRecDepth 100000 in
theorem k_X11_escapes (l : Launch) (hfl : l.stackTraces = false) (D : va_G) (g : Nat → ClassId) (z0 sz : Nat) (a : Nat → Nat) (p0 : Int32) : vx_Met l yX11_escapes (.code yX11_escapes cX11_escapes 6 (some .int) :: TG) (rmk 7 1 6 103) (va_Pc [.ref (a 0), .int p0] (PP D g z0 sz [((a 0), f_x a), ((a 3), f_rows a), ((a 4), f_words a), ((a 38), .inl (g 1, 12, .inr (.inl (fun _ => 0)))), ((a 39), .inl (g 1, 12, .inr (.inl (fun _ => 0)))), ((a 1), f_net a), ((a 2), f_book a)])) (va_Qi (fun (r : Int32) (u : Unit) => (r = 0) ∧ ((¬ p0 < 0) ∧ (p0 ≤ 0))) (fun (u : Unit) (t : State) => va_P D vwCl [] t.heap ∧ va_D (va_A [((a 0), f_x a), ((a 3), f_rows a), ((a 4), f_words a), ((a 38), .inl (g 1, 12, .inr (.inl (fun _ => 0)))), ((a 39), .inl (g 1, 12, .inr (.inl (fun _ => 0)))), ((a 1), f_net a), ((a 2), f_book a)] sz) []) (va_A [((a 0), f_x a), ((a 3), f_rows a), ((a 4), f_words a), ((a 38), .inl (g 1, 12, .inr (.inl (fun _ => 0)))), ((a 39), .inl (g 1, 12, .inr (.inl (fun _ => 0)))), ((a 1), f_net a), ((a 2), f_book a)] sz)) (vx_X (fun _ : Unit => True) (fun E _ _ => (E = "java/lang/IllegalArgumentException" ∧ ((p0 < 0) ∨ ((¬ p0 < 0) ∧ (¬ p0 ≤ 0))))) (va_A [((a 0), f_x a), ((a 3), f_rows a), ((a 4), f_words a), ((a 38), .inl (g 1, 12, .inr (.inl (fun _ => 0)))), ((a 39), .inl (g 1, 12, .inr (.inl (fun _ => 0)))), ((a 1), f_net a), ((a 2), f_book a)] sz)) 1 6 (va_A [((a 0), f_x a), ((a 3), f_rows a), ((a 4), f_words a), ((a 38), .inl (g 1, 12, .inr (.inl (fun _ => 0)))), ((a 39), .inl (g 1, 12, .inr (.inl (fun _ => 0)))), ((a 1), f_net a), ((a 2), f_book a)] sz) := by
  refine vxm0 (cc := cX11_escapes) (n := 6) (by decide) (Nat.le_of_ble_eq_true rfl) ?_
  intro p e s m args below meth c hx hb hr hml htab hown ht hlocks hnm hP0 hD0 hK hZ hsz hz ls hl
  subst hsz
  have hA : ∀ q : Nat, s.heap.size ≤ q → va_A [((a 0), f_x a), ((a 3), f_rows a), ((a 4), f_words a), ((a 38), .inl (g 1, 12, .inr (.inl (fun _ => 0)))), ((a 39), .inl (g 1, 12, .inr (.inl (fun _ => 0)))), ((a 1), f_net a), ((a 2), f_book a)] s.heap.size q := Anw
  have hAz : ∀ q, va_A [((a 0), f_x a), ((a 3), f_rows a), ((a 4), f_words a), ((a 38), .inl (g 1, 12, .inr (.inl (fun _ => 0)))), ((a 39), .inl (g 1, 12, .inr (.inl (fun _ => 0)))), ((a 1), f_net a), ((a 2), f_book a)] s.heap.size q → z0 ≤ q := Awz hz hD0
  have hS : va_S (va_A [((a 0), f_x a), ((a 3), f_rows a), ((a 4), f_words a), ((a 38), .inl (g 1, 12, .inr (.inl (fun _ => 0)))), ((a 39), .inl (g 1, 12, .inr (.inl (fun _ => 0)))), ((a 1), f_net a), ((a 2), f_book a)] s.heap.size) s.heap s.heap [] := va_S.rf
  have hD : va_D (va_A [((a 0), f_x a), ((a 3), f_rows a), ((a 4), f_words a), ((a 38), .inl (g 1, 12, .inr (.inl (fun _ => 0)))), ((a 39), .inl (g 1, 12, .inr (.inl (fun _ => 0)))), ((a 1), f_net a), ((a 2), f_book a)] s.heap.size) [((a 0), f_x a), ((a 3), f_rows a), ((a 4), f_words a), ((a 38), .inl (g 1, 12, .inr (.inl (fun _ => 0)))), ((a 39), .inl (g 1, 12, .inr (.inl (fun _ => 0)))), ((a 1), f_net a), ((a 2), f_book a)] := hD0.self
  have hP : va_P D vwCl [((a 0), f_x a), ((a 3), f_rows a), ((a 4), f_words a), ((a 38), .inl (g 1, 12, .inr (.inl (fun _ => 0)))), ((a 39), .inl (g 1, 12, .inr (.inl (fun _ => 0)))), ((a 1), f_net a), ((a 2), f_book a)] s.heap := hP0
  have hl : lv_has ls 6 [(0, .ref (a 0)), (1, .int p0)] := hl
  refine lv_iload_n hx hb dX11_escapes_0 rfl (lv_at hl 1 rfl) ?_
  refine lv_iconst (v := 0) hx hb dX11_escapes_1 (by decide) ?_
  refine lv_aload_n hx hb dX11_escapes_2 rfl (lv_at hl 0 rfl) ?_
  refine va_get (D := D) (ci := 17) (v := .ref (a 3)) (C := RX11) (T := TX11) (N := 11) hx hb ht in_X11 hown hK.1 hP 0 rfl rfl 2 (by decide) (ht _ w_1) (fun _ h9 => h9) rfl dX11_escapes_3 ?_
  refine va_get (D := D) (ci := 13) (v := .int 0) (C := RX7) (T := TX7) (N := 6) hx hb ht in_X7 hown hK.1 hP 1 rfl rfl 5 (by decide) (ht _ w_26) (fun _ h9 => h9) rfl dX11_escapes_6 ?_
  have hPc : va_P D vwCl [] _ := hP.sub (ws' := []) [] rfl
  have hDc : va_D (fun q => z0 ≤ q) [] := (hD.to hAz).pick (ws' := []) [] (by decide) rfl
  have hFc := AnA (ws := [((a 0), f_x a), ((a 3), f_rows a), ((a 4), f_words a), ((a 38), .inl (g 1, 12, .inr (.inl (fun _ => 0)))), ((a 39), .inl (g 1, 12, .inr (.inl (fun _ => 0)))), ((a 1), f_net a), ((a 2), f_book a)]) hS.1
  refine vx_callv (vx_runS (As := [.int p0, .int 0, .int 0]) (rest := []) ⟨hx, hb, hml, hown, ht⟩ (k_X11_needRange l hfl D g z0 _ a p0 0 0) (va_cwS 3 ht (gS w_51 w_53 w_31 w_52) rfl rfl rfl (by decide +kernel) (le2 rfl rfl)) ⟨PP.blind, PP.mk' hK hZ hz hAz hS hPc hDc⟩ rfl rfl hl.1 rfl (lv_room (Nat.le_of_ble_eq_true rfl)) dX11_escapes_9 (le2 rfl rfl)) hS (fun q _ h => hFc q h) hFc (fun q _ h => hFc q h) (fun E ce q9 u t H locs ht1 hvm hw hB hz1 hk1 hS hcell hv9 hcl => ?_) (fun u t H locs ht1 hvm hw hB hz1 hk1 hS => ?_)
  · obtain ⟨rfl, hB⟩ := hB
    rcases hB with hB | hB
    · have c_1 := hB
      exact out0 htab hlocks hS hcell hv9 hcl (fun t _ hF => ⟨(), trivial, ⟨rfl, (Or.inl c_1)⟩, hF⟩) (fun _ h => h) rfl rfl
    · obtain ⟨c_2, c_3⟩ := hB
      exact out0 htab hlocks hS hcell hv9 hcl (fun t _ hF => ⟨(), trivial, ⟨rfl, (Or.inr ⟨c_2, c_3⟩)⟩, hF⟩) (fun _ h => h) rfl rfl
  · obtain ⟨c_4, c_5⟩ := hw
    have hP := ro1 hP hk1
    refine lv_aload_n hx hb dX11_escapes_12 rfl (lv_at hl 0 rfl) ?_
    refine va_get (D := D) (ci := 17) (v := .ref (a 4)) (C := RX11) (T := TX11) (N := 11) hx hb ht in_X11 hown hK.1 hP 0 rfl rfl 3 (by decide) (ht _ w_0) (fun _ h9 => h9) rfl dX11_escapes_13 ?_
    refine lv_aload_n hx hb dX11_escapes_16 rfl (lv_at hl 0 rfl) ?_
    refine va_get (D := D) (ci := 17) (v := .ref (a 3)) (C := RX11) (T := TX11) (N := 11) hx hb ht in_X11 hown hK.1 hP 0 rfl rfl 2 (by decide) (ht _ w_1) (fun _ h9 => h9) rfl dX11_escapes_17 ?_
    have hPc : va_P D vwCl [((a 3), f_rows a), ((a 4), f_words a), ((a 38), .inl (g 1, 12, .inr (.inl (fun _ => 0)))), ((a 39), .inl (g 1, 12, .inr (.inl (fun _ => 0)))), ((a 1), f_net a), ((a 2), f_book a)] _ := hP.sub (ws' := [((a 3), f_rows a), ((a 4), f_words a), ((a 38), .inl (g 1, 12, .inr (.inl (fun _ => 0)))), ((a 39), .inl (g 1, 12, .inr (.inl (fun _ => 0)))), ((a 1), f_net a), ((a 2), f_book a)]) [1, 2, 3, 4, 5, 6] rfl
    have hDc : va_D (fun q => z0 ≤ q) [((a 3), f_rows a), ((a 4), f_words a), ((a 38), .inl (g 1, 12, .inr (.inl (fun _ => 0)))), ((a 39), .inl (g 1, 12, .inr (.inl (fun _ => 0)))), ((a 1), f_net a), ((a 2), f_book a)] := (hD.to hAz).pick (ws' := [((a 3), f_rows a), ((a 4), f_words a), ((a 38), .inl (g 1, 12, .inr (.inl (fun _ => 0)))), ((a 39), .inl (g 1, 12, .inr (.inl (fun _ => 0)))), ((a 1), f_net a), ((a 2), f_book a)]) [1, 2, 3, 4, 5, 6] (by decide) rfl
    have hFc := va_free (wc := [((a 3), f_rows a), ((a 4), f_words a), ((a 38), .inl (g 1, 12, .inr (.inl (fun _ => 0)))), ((a 39), .inl (g 1, 12, .inr (.inl (fun _ => 0)))), ((a 1), f_net a), ((a 2), f_book a)]) hD hS hA [1, 2, 3, 4, 5, 6] rfl
    refine va_callv (va_runV (As := [.ref (a 3)]) (rest := []) ⟨hx, hb, hml, hown, ht⟩ (k_X10_findAll l D g z0 _ a) (cwV 1 ht (gV w_172 w_174 w_175 w_14 w_173) rfl rfl rfl (by decide +kernel) (le2 rfl rfl)) ⟨PP.blind, va_recv hK.1 hP (ci := 16) (q0 := 2) rfl rfl, PP.mk' hK hZ hz hAz hS hPc hDc⟩ rfl rfl hl.1 rfl (lv_room (Nat.le_of_ble_eq_true rfl)) dX11_escapes_20 (le2 rfl rfl)) hS (fun q _ h => hFc q h) hFc (fun u t H locs ht1 hvm hw hB hz1 hk1 hS => ?_)
    obtain ⟨hP1, hD1⟩ := hB
    rw [ht1] at hP1
    obtain ⟨hP, hD⟩ := va_join (wr := [((a 0), f_x a)]) (w1 := [((a 2), f_book a), ((a 3), f_rows a), ((a 38), .inl (g 1, 12, .inr (.inl (fun _ => 0)))), ((a 39), .inl (g 1, 12, .inr (.inl (fun _ => 0)))), ((a 4), f_words a), ((a 1), f_net a)]) hP hD [1, 2, 3, 4, 5, 6] [0] rfl rfl (by decide) (by decide) hk1 hFc hP1 hD1
    have hP : va_P D vwCl [((a 0), f_x a), ((a 2), f_book a), ((a 3), f_rows a), ((a 38), .inl (g 1, 12, .inr (.inl (fun _ => 0)))), ((a 39), .inl (g 1, 12, .inr (.inl (fun _ => 0)))), ((a 4), f_words a), ((a 1), f_net a)] H := hP
    have hD : va_D (va_A [((a 0), f_x a), ((a 3), f_rows a), ((a 4), f_words a), ((a 38), .inl (g 1, 12, .inr (.inl (fun _ => 0)))), ((a 39), .inl (g 1, 12, .inr (.inl (fun _ => 0)))), ((a 1), f_net a), ((a 2), f_book a)] s.heap.size) [((a 0), f_x a), ((a 2), f_book a), ((a 3), f_rows a), ((a 38), .inl (g 1, 12, .inr (.inl (fun _ => 0)))), ((a 39), .inl (g 1, 12, .inr (.inl (fun _ => 0)))), ((a 4), f_words a), ((a 1), f_net a)] := hD
    refine lv_aload_n hx hb dX11_escapes_23 rfl (lv_at hl 0 rfl) ?_
    refine va_get (D := D) (ci := 17) (v := .ref (a 3)) (C := RX11) (T := TX11) (N := 11) hx hb ht in_X11 hown hK.1 hP 0 rfl rfl 2 (by decide) (ht _ w_1) (fun _ h9 => h9) rfl dX11_escapes_24 ?_
    refine lv_aload_n hx hb dX11_escapes_27 rfl (lv_at hl 0 rfl) ?_
    refine va_get (D := D) (ci := 17) (v := .ref (a 4)) (C := RX11) (T := TX11) (N := 11) hx hb ht in_X11 hown hK.1 hP 0 rfl rfl 3 (by decide) (ht _ w_0) (fun _ h9 => h9) rfl dX11_escapes_28 ?_
    refine lv_aload_n hx hb dX11_escapes_31 rfl (lv_at hl 0 rfl) ?_
    refine va_get (D := D) (ci := 17) (v := .ref (a 2)) (C := RX11) (T := TX11) (N := 11) hx hb ht in_X11 hown hK.1 hP 0 rfl rfl 1 (by decide) (ht _ w_32) (fun _ h9 => h9) rfl dX11_escapes_32 ?_
    have hPc : va_P D vwCl [((a 2), f_book a), ((a 3), f_rows a)] _ := hP.sub (ws' := [((a 2), f_book a), ((a 3), f_rows a)]) [1, 2] rfl
    have hDc : va_D (fun q => z0 ≤ q) [((a 2), f_book a), ((a 3), f_rows a)] := (hD.to hAz).pick (ws' := [((a 2), f_book a), ((a 3), f_rows a)]) [1, 2] (by decide) rfl
    have hFc := AnA (ws := [((a 0), f_x a), ((a 3), f_rows a), ((a 4), f_words a), ((a 38), .inl (g 1, 12, .inr (.inl (fun _ => 0)))), ((a 39), .inl (g 1, 12, .inr (.inl (fun _ => 0)))), ((a 1), f_net a), ((a 2), f_book a)]) hS.1
    refine va_callv (va_runV (As := [.ref (a 4), .ref (a 2)]) (rest := []) ⟨hx, hb, hml, hown, ht⟩ (k_X7_putInOrder l D g z0 _ a) (cwV 2 ht (gV w_178 w_180 w_181 w_182 w_179) rfl rfl rfl (by decide +kernel) (le2 rfl rfl)) ⟨PP.blind, va_recv hK.1 hP (ci := 13) (q0 := 2) rfl rfl, PP.mk' hK hZ hz hAz hS hPc hDc⟩ rfl rfl hl.1 rfl (lv_room (Nat.le_of_ble_eq_true rfl)) dX11_escapes_35 (le2 rfl rfl)) hS (fun q _ h => hFc q h) hFc (fun u t H locs ht1 hvm hw hB hz1 hk1 hS => ?_)
    have hP := ro1 hP hk1
    refine lv_lconst (v := 0) hx hb dX11_escapes_38 (by decide) ?_
    refine lv_lstore_n (lv' := [(2, .long 0), (0, .ref (a 0)), (1, .int p0)]) hx hb dX11_escapes_39 rfl hl (by decide) rfl (fun ls hl => ?_)
    refine lv_iconst (v := 0) hx hb dX11_escapes_40 (by decide) ?_
    refine lv_istore (lv' := [(4, .int 0), (2, .long 0), (0, .ref (a 0)), (1, .int p0)]) hx hb dX11_escapes_41 hl (by decide) rfl (fun ls hl => ?_)
    refine lv_iload hx hb dX11_escapes_43 (lv_at hl 0 rfl) ?_
    refine lv_iload_n hx hb dX11_escapes_45 rfl (lv_at hl 3 rfl) ?_
    refine lv_icmp_ge (tgt := 70) hx hb dX11_escapes_46 (by decide) (fun c_6 => ?_) (fun c_6 => ?_)
    · refine lv_iconst (v := 0) hx hb dX11_escapes_70 (by decide) ?_
      refine lv_istore (lv' := [(4, .int 0), (2, .long 0), (0, .ref (a 0)), (1, .int p0)]) hx hb dX11_escapes_71 hl (by decide) rfl (fun ls hl => ?_)
      refine lv_iconst (v := 0) hx hb dX11_escapes_73 (by decide) ?_
      refine lv_istore (lv' := [(5, .int 0), (4, .int 0), (2, .long 0), (0, .ref (a 0)), (1, .int p0)]) hx hb dX11_escapes_74 hl (by decide) rfl (fun ls hl => ?_)
      refine lv_iload hx hb dX11_escapes_76 (lv_at hl 0 rfl) ?_
      refine lv_aload_n hx hb dX11_escapes_78 rfl (lv_at hl 3 rfl) ?_
      refine va_get (D := D) (ci := 17) (v := .ref (a 2)) (C := RX11) (T := TX11) (N := 11) hx hb ht in_X11 hown hK.1 hP 0 rfl rfl 1 (by decide) (ht _ w_32) (fun _ h9 => h9) rfl dX11_escapes_79 ?_
      refine va_get (D := D) (ci := 9) (v := .int 0) (C := RX3) (T := TX3) (N := 14) hx hb ht in_X3 hown hK.1 hP 1 rfl rfl 11 (by decide) (ht _ w_33) (fun _ h9 => h9) rfl dX11_escapes_82 ?_
      refine lv_icmp_ge (tgt := 137) hx hb dX11_escapes_85 (by decide) (fun c_7 => ?_) (fun c_7 => ?_)
      · refine lv_iload hx hb dX11_escapes_137 (lv_at hl 1 rfl) ?_
        have hP9 := hP.sub (ws' := []) [] rfl
        have hD9 := hD.sub (ws' := []) [] (by decide) rfl
        refine vx_ret (W.widen (k := 1) (n := 6) (Nat.le_of_ble_eq_true rfl) (Nat.le_of_ble_eq_true rfl) ?_)
        exact W.iret (v := 0) hx hb hr (fun t ht9 hW9 => ⟨⟨0, (), rfl, ⟨rfl, ⟨c_4, c_5⟩⟩, ⟨(by rw [ht9]; exact hP9), hD9⟩⟩, hS.F ht9⟩) hS.2.2 dX11_escapes_139 hlocks
      · exact absurd c_7 (by decide)
    · exact absurd c_5 c_6
set_option maxHeartbeats 4000000 in
set_option maxRecDepth 100000 in
theorem k_X11_needPattern (l : Launch) (hfl : l.stackTraces = false) (D : va_G) (g : Nat → ClassId) (z0 sz : Nat) (a : Nat → Nat) (p0 : Int32) : vx_Met l yX11_needPattern (.code yX11_needPattern cX11_needPattern 2 none :: TG) (rmk 6 1 6 81) (va_Pc [.ref (a 0), .int p0] (PP D g z0 sz [((a 0), f_x a), ((a 3), f_rows a)])) (va_Qv (fun (u : Unit) => False) (fun (_ : Unit) (_ : State) => True) (va_A [] sz)) (vx_X (fun _ : Unit => True) (fun E _ _ => (E = "java/lang/IndexOutOfBoundsException" ∧ True)) (va_A [] sz)) 1 6 (va_A [] sz) := by
  refine vxm0 (cc := cX11_needPattern) (n := 2) (by decide) (Nat.le_of_ble_eq_true rfl) ?_
  intro p e s m args below meth c hx hb hr hml htab hown ht hlocks hnm hP0 hD0 hK hZ hsz hz ls hl
  subst hsz
  have hA : ∀ q : Nat, s.heap.size ≤ q → va_A [] s.heap.size q := Anw
  have hAz : ∀ q, va_A [] s.heap.size q → z0 ≤ q := A0z hz
  have hS : va_S (va_A [] s.heap.size) s.heap s.heap [] := va_S.rf
  have hl : lv_has ls 2 [(0, .ref (a 0)), (1, .int p0)] := hl
  refine lv_iload_n hx hb dX11_needPattern_0 rfl (lv_at hl 1 rfl) ?_
  refine lv_if_lt (tgt := 15) hx hb dX11_needPattern_1 (by decide) (fun c_1 => ?_) (fun c_1 => ?_)
  · exact thr0 hx hb hfl hown ht hK.2.2 hZ hAz hS hl hml htab hlocks (by decide +kernel) w_35 w_36 at_X11_102 dX11_needPattern_15 dX11_needPattern_18 dX11_needPattern_19 dX11_needPattern_22 rfl rfl rfl rfl (fun t _ hF => ⟨(), trivial, ⟨rfl, trivial⟩, hF⟩) (fun _ h => h) rfl rfl
  · refine lv_iload_n hx hb dX11_needPattern_4 rfl (lv_at hl 1 rfl) ?_
    refine lv_aload_n hx hb dX11_needPattern_5 rfl (lv_at hl 0 rfl) ?_
    refine va_get (D := D) (ci := 17) (v := .ref (a 3)) (C := RX11) (T := TX11) (N := 11) hx hb ht in_X11 hown hK.1 (ro0 hP0 hS) 0 rfl rfl 2 (by decide) (ht _ w_1) (fun _ h9 => h9) rfl dX11_needPattern_6 ?_
    refine va_get (D := D) (ci := 13) (v := .int 0) (C := RX7) (T := TX7) (N := 6) hx hb ht in_X7 hown hK.1 (ro0 hP0 hS) 1 rfl rfl 5 (by decide) (ht _ w_26) (fun _ h9 => h9) rfl dX11_needPattern_9 ?_
    refine lv_icmp_lt (tgt := 23) hx hb dX11_needPattern_12 (by decide) (fun c_2 => ?_) (fun c_2 => ?_)
    · exact absurd c_2 c_1
    · exact thr0 hx hb hfl hown ht hK.2.2 hZ hAz hS hl hml htab hlocks (by decide +kernel) w_35 w_36 at_X11_102 dX11_needPattern_15 dX11_needPattern_18 dX11_needPattern_19 dX11_needPattern_22 rfl rfl rfl rfl (fun t _ hF => ⟨(), trivial, ⟨rfl, trivial⟩, hF⟩) (fun _ h => h) rfl rfl
set_option maxHeartbeats 4000000 in
set_option maxRecDepth 100000 in
theorem k_X11_fails (l : Launch) (hfl : l.stackTraces = false) (D : va_G) (g : Nat → ClassId) (z0 sz : Nat) (a : Nat → Nat) (p0 : Int32) : vx_Met l yX11_fails (.code yX11_fails cX11_fails 2 (some .long) :: TG) (rmk 7 1 6 102) (va_Pc [.ref (a 0), .int p0] (PP D g z0 sz [((a 0), f_x a), ((a 3), f_rows a)])) (va_Ql (fun (r : Int64) (u : Unit) => False) (fun (_ : Unit) (_ : State) => True) (va_A [] sz)) (vx_X (fun _ : Unit => True) (fun E _ _ => (E = "java/lang/IndexOutOfBoundsException" ∧ True)) (va_A [] sz)) 1 6 (va_A [] sz) := by
  refine vxm0 (cc := cX11_fails) (n := 2) (by decide) (Nat.le_of_ble_eq_true rfl) ?_
  intro p e s m args below meth c hx hb hr hml htab hown ht hlocks hnm hP0 hD0 hK hZ hsz hz ls hl
  subst hsz
  have hA : ∀ q : Nat, s.heap.size ≤ q → va_A [] s.heap.size q := Anw
  have hAz : ∀ q, va_A [] s.heap.size q → z0 ≤ q := A0z hz
  have hS : va_S (va_A [] s.heap.size) s.heap s.heap [] := va_S.rf
  have hl : lv_has ls 2 [(0, .ref (a 0)), (1, .int p0)] := hl
  refine lv_aload_n hx hb dX11_fails_0 rfl (lv_at hl 0 rfl) ?_
  refine lv_iload_n hx hb dX11_fails_1 rfl (lv_at hl 1 rfl) ?_
  have hPc : va_P D vwCl [((a 0), f_x a), ((a 3), f_rows a)] _ := (ro0 hP0 hS).sub (ws' := [((a 0), f_x a), ((a 3), f_rows a)]) [0, 1] rfl
  have hDc : va_D (fun q => z0 ≤ q) [((a 0), f_x a), ((a 3), f_rows a)] := hD0.pick (ws' := [((a 0), f_x a), ((a 3), f_rows a)]) [0, 1] (by decide) rfl
  have hFc := AnA (ws := []) hS.1
  refine vx_callv (vx_runV (As := [.int p0]) (rest := []) ⟨hx, hb, hml, hown, ht⟩ (k_X11_needPattern l hfl D g z0 _ a p0) (cwV 1 ht (gV w_183 w_185 w_186 w_31 w_184) rfl rfl rfl (by decide +kernel) (le2 rfl rfl)) ⟨PP.blind, va_recv hK.1 (ro0 hP0 hS) (ci := 17) (q0 := 0) rfl rfl, PP.mk' hK hZ hz hAz hS hPc hDc⟩ rfl rfl hl.1 rfl (lv_room (Nat.le_of_ble_eq_true rfl)) dX11_fails_2 (le2 rfl rfl)) hS (fun q _ h => hFc q h) hFc (fun q _ h => hFc q h) (fun E ce q9 u t H locs ht1 hvm hw hB hz1 hk1 hS hcell hv9 hcl => ?_) (fun u t H locs ht1 hvm hw hB hz1 hk1 hS => ?_)
  · obtain ⟨rfl, hB⟩ := hB
    exact out0 htab hlocks hS hcell hv9 hcl (fun t _ hF => ⟨(), trivial, ⟨rfl, trivial⟩, hF⟩) (fun _ h => h) rfl rfl
  · exact hw.elim
set_option maxHeartbeats 4000000 in
set_option maxRecDepth 100000 in
theorem k_X11_faults (l : Launch) (D : va_G) (g : Nat → ClassId) (z0 sz : Nat) (a : Nat → Nat) : Met l yX11_faults (.code yX11_faults cX11_faults 1 (some .int) :: TG) (rmk 0 0 0 0) (va_Pc [.ref (a 0)] (PP D g z0 sz [((a 0), f_x a), ((a 2), f_book a)])) (va_Qi (fun (r : Int32) (u : Unit) => (r = 0) ∧ True) (fun (_ : Unit) (_ : State) => True) (va_A [] sz)) 0 0 (va_A [] sz) := by
  refine met0 (cc := cX11_faults) (n := 1) (by decide) (Nat.le_of_ble_eq_true rfl) ?_
  intro p e s m args below meth c hx hb hr hml hown ht hlocks hnm hP0 hD0 hK hZ hsz hz ls hl
  subst hsz
  have hA : ∀ q : Nat, s.heap.size ≤ q → va_A [] s.heap.size q := Anw
  have hAz : ∀ q, va_A [] s.heap.size q → z0 ≤ q := A0z hz
  have hS : va_S (va_A [] s.heap.size) s.heap s.heap [] := va_S.rf
  have hl : lv_has ls 1 [(0, .ref (a 0))] := hl
  refine lv_aload_n hx hb dX11_faults_0 rfl (lv_at hl 0 rfl) ?_
  refine va_get (D := D) (ci := 17) (v := .ref (a 2)) (C := RX11) (T := TX11) (N := 11) hx hb ht in_X11 hown hK.1 (ro0 hP0 hS) 0 rfl rfl 1 (by decide) (ht _ w_32) (fun _ h9 => h9) rfl dX11_faults_1 ?_
  refine va_get (D := D) (ci := 9) (v := .int 0) (C := RX3) (T := TX3) (N := 14) hx hb ht in_X3 hown hK.1 (ro0 hP0 hS) 1 rfl rfl 10 (by decide) (ht _ w_34) (fun _ h9 => h9) rfl dX11_faults_4 ?_
  refine W.widen (k := 0) (n := 0) (Nat.le_of_ble_eq_true rfl) (Nat.le_of_ble_eq_true rfl) ?_
  exact W.iret (v := 0) hx hb hr (fun t ht9 hW9 => ⟨⟨0, (), rfl, ⟨rfl, trivial⟩, trivial⟩, hS.F ht9⟩) hS.2.2 dX11_faults_7 hlocks
set_option maxHeartbeats 4000000 in
set_option maxRecDepth 100000 in
theorem k_X11_faulty (l : Launch) (hfl : l.stackTraces = false) (D : va_G) (g : Nat → ClassId) (z0 sz : Nat) (a : Nat → Nat) (p0 : Int32) (p1 : Int32) (p2 : Int32) : vx_Met l yX11_faulty (.code yX11_faulty cX11_faulty 4 (some .int) :: TG) (rmk 7 1 6 102) (va_Pc [.ref (a 0), .int p0, .int p1, .int p2] (PP D g z0 sz [((a 0), f_x a), ((a 3), f_rows a)])) (va_Qi (fun (r : Int32) (u : Unit) => False) (fun (_ : Unit) (_ : State) => True) (va_A [] sz)) (vx_X (fun _ : Unit => True) (fun E _ _ => (E = "java/lang/IndexOutOfBoundsException" ∧ True)) (va_A [] sz)) 1 6 (va_A [] sz) := by
  refine vxm0 (cc := cX11_faulty) (n := 4) (by decide) (Nat.le_of_ble_eq_true rfl) ?_
  intro p e s m args below meth c hx hb hr hml htab hown ht hlocks hnm hP0 hD0 hK hZ hsz hz ls hl
  subst hsz
  have hA : ∀ q : Nat, s.heap.size ≤ q → va_A [] s.heap.size q := Anw
  have hAz : ∀ q, va_A [] s.heap.size q → z0 ≤ q := A0z hz
  have hS : va_S (va_A [] s.heap.size) s.heap s.heap [] := va_S.rf
  have hl : lv_has ls 4 [(0, .ref (a 0)), (1, .int p0), (2, .int p1), (3, .int p2)] := hl
  refine lv_aload_n hx hb dX11_faulty_0 rfl (lv_at hl 0 rfl) ?_
  refine lv_iload_n hx hb dX11_faulty_1 rfl (lv_at hl 1 rfl) ?_
  have hPc : va_P D vwCl [((a 0), f_x a), ((a 3), f_rows a)] _ := (ro0 hP0 hS).sub (ws' := [((a 0), f_x a), ((a 3), f_rows a)]) [0, 1] rfl
  have hDc : va_D (fun q => z0 ≤ q) [((a 0), f_x a), ((a 3), f_rows a)] := hD0.pick (ws' := [((a 0), f_x a), ((a 3), f_rows a)]) [0, 1] (by decide) rfl
  have hFc := AnA (ws := []) hS.1
  refine vx_callv (vx_runV (As := [.int p0]) (rest := []) ⟨hx, hb, hml, hown, ht⟩ (k_X11_needPattern l hfl D g z0 _ a p0) (cwV 1 ht (gV w_183 w_185 w_186 w_31 w_184) rfl rfl rfl (by decide +kernel) (le2 rfl rfl)) ⟨PP.blind, va_recv hK.1 (ro0 hP0 hS) (ci := 17) (q0 := 0) rfl rfl, PP.mk' hK hZ hz hAz hS hPc hDc⟩ rfl rfl hl.1 rfl (lv_room (Nat.le_of_ble_eq_true rfl)) dX11_faulty_2 (le2 rfl rfl)) hS (fun q _ h => hFc q h) hFc (fun q _ h => hFc q h) (fun E ce q9 u t H locs ht1 hvm hw hB hz1 hk1 hS hcell hv9 hcl => ?_) (fun u t H locs ht1 hvm hw hB hz1 hk1 hS => ?_)
  · obtain ⟨rfl, hB⟩ := hB
    exact out0 htab hlocks hS hcell hv9 hcl (fun t _ hF => ⟨(), trivial, ⟨rfl, trivial⟩, hF⟩) (fun _ h => h) rfl rfl
  · exact hw.elim
set_option maxHeartbeats 4000000 in
set_option maxRecDepth 100000 in
theorem k_X11_fill (l : Launch) (hfl : l.stackTraces = false) (D : va_G) (g : Nat → ClassId) (z0 sz : Nat) (a : Nat → Nat) (p0 : Int32) (p1 : Int32) (hc_p1 : isC p1) : vx_Met l yX11_fill (.code yX11_fill cX11_fill 3 (some .int) :: TG) (rmk 7 1 6 102) (va_Pc [.ref (a 0), .int p0, .int p1] (PP D g z0 sz [((a 0), f_x a), ((a 3), f_rows a)])) (va_Qi (fun (r : Int32) (u : Unit) => False) (fun (_ : Unit) (_ : State) => True) (va_A [] sz)) (vx_X (fun _ : Unit => True) (fun E _ _ => (E = "java/lang/IndexOutOfBoundsException" ∧ True)) (va_A [] sz)) 1 6 (va_A [] sz) := by
  refine vxm0 (cc := cX11_fill) (n := 3) (by decide) (Nat.le_of_ble_eq_true rfl) ?_
  intro p e s m args below meth c hx hb hr hml htab hown ht hlocks hnm hP0 hD0 hK hZ hsz hz ls hl
  subst hsz
  have hA : ∀ q : Nat, s.heap.size ≤ q → va_A [] s.heap.size q := Anw
  have hAz : ∀ q, va_A [] s.heap.size q → z0 ≤ q := A0z hz
  have hS : va_S (va_A [] s.heap.size) s.heap s.heap [] := va_S.rf
  have hl : lv_has ls 3 [(0, .ref (a 0)), (1, .int p0), (2, .int p1)] := hl
  refine lv_aload_n hx hb dX11_fill_0 rfl (lv_at hl 0 rfl) ?_
  refine lv_iload_n hx hb dX11_fill_1 rfl (lv_at hl 1 rfl) ?_
  have hPc : va_P D vwCl [((a 0), f_x a), ((a 3), f_rows a)] _ := (ro0 hP0 hS).sub (ws' := [((a 0), f_x a), ((a 3), f_rows a)]) [0, 1] rfl
  have hDc : va_D (fun q => z0 ≤ q) [((a 0), f_x a), ((a 3), f_rows a)] := hD0.pick (ws' := [((a 0), f_x a), ((a 3), f_rows a)]) [0, 1] (by decide) rfl
  have hFc := AnA (ws := []) hS.1
  refine vx_callv (vx_runV (As := [.int p0]) (rest := []) ⟨hx, hb, hml, hown, ht⟩ (k_X11_needPattern l hfl D g z0 _ a p0) (cwV 1 ht (gV w_183 w_185 w_186 w_31 w_184) rfl rfl rfl (by decide +kernel) (le2 rfl rfl)) ⟨PP.blind, va_recv hK.1 (ro0 hP0 hS) (ci := 17) (q0 := 0) rfl rfl, PP.mk' hK hZ hz hAz hS hPc hDc⟩ rfl rfl hl.1 rfl (lv_room (Nat.le_of_ble_eq_true rfl)) dX11_fill_2 (le2 rfl rfl)) hS (fun q _ h => hFc q h) hFc (fun q _ h => hFc q h) (fun E ce q9 u t H locs ht1 hvm hw hB hz1 hk1 hS hcell hv9 hcl => ?_) (fun u t H locs ht1 hvm hw hB hz1 hk1 hS => ?_)
  · obtain ⟨rfl, hB⟩ := hB
    exact out0 htab hlocks hS hcell hv9 hcl (fun t _ hF => ⟨(), trivial, ⟨rfl, trivial⟩, hF⟩) (fun _ h => h) rfl rfl
  · exact hw.elim
set_option maxHeartbeats 4000000 in
set_option maxRecDepth 100000 in
theorem k_X11_finds (l : Launch) (hfl : l.stackTraces = false) (D : va_G) (g : Nat → ClassId) (z0 sz : Nat) (a : Nat → Nat) (p0 : Int32) (p1 : Int32) (p2 : Int32) (hc_p2 : isC p2) : vx_Met l yX11_finds (.code yX11_finds cX11_finds 4 (some .boolean) :: TG) (rmk 7 1 6 102) (va_Pc [.ref (a 0), .int p0, .int p1, .int p2] (PP D g z0 sz [((a 0), f_x a), ((a 2), f_book a)])) (va_Qi (fun (r : Int32) (u : Unit) => False) (fun (_ : Unit) (_ : State) => True) (va_A [] sz)) (vx_X (fun _ : Unit => True) (fun E _ _ => (E = "java/lang/IndexOutOfBoundsException" ∧ True)) (va_A [] sz)) 1 6 (va_A [] sz) := by
  refine vxm0 (cc := cX11_finds) (n := 4) (by decide) (Nat.le_of_ble_eq_true rfl) ?_
  intro p e s m args below meth c hx hb hr hml htab hown ht hlocks hnm hP0 hD0 hK hZ hsz hz ls hl
  subst hsz
  have hA : ∀ q : Nat, s.heap.size ≤ q → va_A [] s.heap.size q := Anw
  have hAz : ∀ q, va_A [] s.heap.size q → z0 ≤ q := A0z hz
  have hS : va_S (va_A [] s.heap.size) s.heap s.heap [] := va_S.rf
  have hl : lv_has ls 4 [(0, .ref (a 0)), (1, .int p0), (2, .int p1), (3, .int p2)] := hl
  refine lv_aload_n hx hb dX11_finds_0 rfl (lv_at hl 0 rfl) ?_
  refine lv_iload_n hx hb dX11_finds_1 rfl (lv_at hl 1 rfl) ?_
  have hPc : va_P D vwCl [((a 0), f_x a), ((a 2), f_book a)] _ := (ro0 hP0 hS).sub (ws' := [((a 0), f_x a), ((a 2), f_book a)]) [0, 1] rfl
  have hDc : va_D (fun q => z0 ≤ q) [((a 0), f_x a), ((a 2), f_book a)] := hD0.pick (ws' := [((a 0), f_x a), ((a 2), f_book a)]) [0, 1] (by decide) rfl
  have hFc := AnA (ws := []) hS.1
  refine vx_callv (vx_runV (As := [.int p0]) (rest := []) ⟨hx, hb, hml, hown, ht⟩ (k_X11_needFault l hfl D g z0 _ a p0) (cwV 1 ht (gV w_37 w_39 w_40 w_31 w_38) rfl rfl rfl (by decide +kernel) (le2 rfl rfl)) ⟨PP.blind, va_recv hK.1 (ro0 hP0 hS) (ci := 17) (q0 := 0) rfl rfl, PP.mk' hK hZ hz hAz hS hPc hDc⟩ rfl rfl hl.1 rfl (lv_room (Nat.le_of_ble_eq_true rfl)) dX11_finds_2 (le2 rfl rfl)) hS (fun q _ h => hFc q h) hFc (fun q _ h => hFc q h) (fun E ce q9 u t H locs ht1 hvm hw hB hz1 hk1 hS hcell hv9 hcl => ?_) (fun u t H locs ht1 hvm hw hB hz1 hk1 hS => ?_)
  · obtain ⟨rfl, hB⟩ := hB
    exact out0 htab hlocks hS hcell hv9 hcl (fun t _ hF => ⟨(), trivial, ⟨rfl, trivial⟩, hF⟩) (fun _ h => h) rfl rfl
  · exact hw.elim
set_option maxHeartbeats 4000000 in
set_option maxRecDepth 100000 in
theorem k_X11_foundBy (l : Launch) (hfl : l.stackTraces = false) (D : va_G) (g : Nat → ClassId) (z0 sz : Nat) (a : Nat → Nat) (p0 : Int32) : vx_Met l yX11_foundBy (.code yX11_foundBy cX11_foundBy 2 (some .long) :: TG) (rmk 7 1 6 102) (va_Pc [.ref (a 0), .int p0] (PP D g z0 sz [((a 0), f_x a), ((a 2), f_book a)])) (va_Ql (fun (r : Int64) (u : Unit) => False) (fun (_ : Unit) (_ : State) => True) (va_A [] sz)) (vx_X (fun _ : Unit => True) (fun E _ _ => (E = "java/lang/IndexOutOfBoundsException" ∧ True)) (va_A [] sz)) 1 6 (va_A [] sz) := by
  refine vxm0 (cc := cX11_foundBy) (n := 2) (by decide) (Nat.le_of_ble_eq_true rfl) ?_
  intro p e s m args below meth c hx hb hr hml htab hown ht hlocks hnm hP0 hD0 hK hZ hsz hz ls hl
  subst hsz
  have hA : ∀ q : Nat, s.heap.size ≤ q → va_A [] s.heap.size q := Anw
  have hAz : ∀ q, va_A [] s.heap.size q → z0 ≤ q := A0z hz
  have hS : va_S (va_A [] s.heap.size) s.heap s.heap [] := va_S.rf
  have hl : lv_has ls 2 [(0, .ref (a 0)), (1, .int p0)] := hl
  refine lv_aload_n hx hb dX11_foundBy_0 rfl (lv_at hl 0 rfl) ?_
  refine lv_iload_n hx hb dX11_foundBy_1 rfl (lv_at hl 1 rfl) ?_
  have hPc : va_P D vwCl [((a 0), f_x a), ((a 2), f_book a)] _ := (ro0 hP0 hS).sub (ws' := [((a 0), f_x a), ((a 2), f_book a)]) [0, 1] rfl
  have hDc : va_D (fun q => z0 ≤ q) [((a 0), f_x a), ((a 2), f_book a)] := hD0.pick (ws' := [((a 0), f_x a), ((a 2), f_book a)]) [0, 1] (by decide) rfl
  have hFc := AnA (ws := []) hS.1
  refine vx_callv (vx_runV (As := [.int p0]) (rest := []) ⟨hx, hb, hml, hown, ht⟩ (k_X11_needFault l hfl D g z0 _ a p0) (cwV 1 ht (gV w_37 w_39 w_40 w_31 w_38) rfl rfl rfl (by decide +kernel) (le2 rfl rfl)) ⟨PP.blind, va_recv hK.1 (ro0 hP0 hS) (ci := 17) (q0 := 0) rfl rfl, PP.mk' hK hZ hz hAz hS hPc hDc⟩ rfl rfl hl.1 rfl (lv_room (Nat.le_of_ble_eq_true rfl)) dX11_foundBy_2 (le2 rfl rfl)) hS (fun q _ h => hFc q h) hFc (fun q _ h => hFc q h) (fun E ce q9 u t H locs ht1 hvm hw hB hz1 hk1 hS hcell hv9 hcl => ?_) (fun u t H locs ht1 hvm hw hB hz1 hk1 hS => ?_)
  · obtain ⟨rfl, hB⟩ := hB
    exact out0 htab hlocks hS hcell hv9 hcl (fun t _ hF => ⟨(), trivial, ⟨rfl, trivial⟩, hF⟩) (fun _ h => h) rfl rfl
  · exact hw.elim
set_option maxHeartbeats 4000000 in
set_option maxRecDepth 100000 in
theorem k_X11_gate (l : Launch) (hfl : l.stackTraces = false) (D : va_G) (g : Nat → ClassId) (z0 sz : Nat) (a : Nat → Nat) (p0 : Int32) (p1 : Int32) (p2 : Int32) (hc_p0 : isC p0) : vx_Met l yX11_gate (.code yX11_gate cX11_gate 5 (some .int) :: TG) (rmk 7 1 6 102) (va_Pc [.ref (a 0), .int p0, .int p1, .int p2] (PP D g z0 sz [((a 0), f_x a), ((a 1), f_net a)])) (va_Qi (fun (r : Int32) (u : Unit) => False) (fun (_ : Unit) (_ : State) => True) (va_A [] sz)) (vx_X (fun _ : Unit => True) (fun E _ _ => (E = "java/lang/IndexOutOfBoundsException" ∧ ((gk2 p0) ∨ (gk1 p0))) ∨ (E = "java/lang/IllegalArgumentException" ∧ ((¬ gk2 p0) ∧ (¬ gk1 p0)))) (va_A [] sz)) 1 6 (va_A [] sz) := by
  refine vxm0 (cc := cX11_gate) (n := 5) (by decide) (Nat.le_of_ble_eq_true rfl) ?_
  intro p e s m args below meth c hx hb hr hml htab hown ht hlocks hnm hP0 hD0 hK hZ hsz hz ls hl
  subst hsz
  have hA : ∀ q : Nat, s.heap.size ≤ q → va_A [] s.heap.size q := Anw
  have hAz : ∀ q, va_A [] s.heap.size q → z0 ≤ q := A0z hz
  have hS : va_S (va_A [] s.heap.size) s.heap s.heap [] := va_S.rf
  have hl : lv_has ls 5 [(0, .ref (a 0)), (1, .int p0), (2, .int p1), (3, .int p2)] := hl
  refine lv_iload_n hx hb dX11_gate_0 rfl (lv_at hl 1 rfl) ?_
  have hPc : va_P D vwCl [] _ := (ro0 hP0 hS).sub (ws' := []) [] rfl
  have hDc : va_D (fun q => z0 ≤ q) [] := hD0.pick (ws' := []) [] (by decide) rfl
  have hFc := AnA (ws := []) hS.1
  refine va_calli (va_runS (As := [.int p0]) (rest := []) ⟨hx, hb, hml, hown, ht⟩ (k_X6_pinsOfKind l D g z0 _ p0) (va_cwS 1 ht (gS w_187 w_189 w_135 w_188) rfl rfl rfl (by decide +kernel) (le2 rfl rfl)) ⟨PP.blind, PP.mk' hK hZ hz hAz hS hPc hDc⟩ rfl rfl hl.1 rfl (lv_room (Nat.le_of_ble_eq_true rfl)) dX11_gate_1 (le2 rfl rfl)) hS (fun q _ h => hFc q h) hFc (fun r u t H locs ht1 hvm hw hB hz1 hk1 hS => ?_)
  rcases hw with hw | hw | hw
  · obtain ⟨rfl, hw⟩ := hw
    have c_1 := hw
    refine lv_istore (lv' := [(4, .int 2), (0, .ref (a 0)), (1, .int p0), (2, .int p1), (3, .int p2)]) hx hb dX11_gate_4 hl (by decide) rfl (fun ls hl => ?_)
    refine lv_iload hx hb dX11_gate_6 (lv_at hl 0 rfl) ?_
    refine lv_if_ne (tgt := 19) hx hb dX11_gate_8 (by decide) (fun c_2 => ?_) (fun c_2 => ?_)
    · refine lv_aload_n hx hb dX11_gate_19 rfl (lv_at hl 1 rfl) ?_
      refine lv_iload_n hx hb dX11_gate_20 rfl (lv_at hl 3 rfl) ?_
      have hPc : va_P D vwCl [((a 0), f_x a), ((a 1), f_net a)] _ := (ro0 hP0 hS).sub (ws' := [((a 0), f_x a), ((a 1), f_net a)]) [0, 1] rfl
      have hDc : va_D (fun q => z0 ≤ q) [((a 0), f_x a), ((a 1), f_net a)] := hD0.pick (ws' := [((a 0), f_x a), ((a 1), f_net a)]) [0, 1] (by decide) rfl
      have hFc := AnA (ws := []) hS.1
      refine vx_callv (vx_runV (As := [.int p1]) (rest := []) ⟨hx, hb, hml, hown, ht⟩ (k_X11_needLine l hfl D g z0 _ a p1) (cwV 1 ht (gV w_80 w_82 w_83 w_31 w_81) rfl rfl rfl (by decide +kernel) (le2 rfl rfl)) ⟨PP.blind, va_recv hK.1 (ro0 hP0 hS) (ci := 17) (q0 := 0) rfl rfl, PP.mk' hK hZ hz hAz hS hPc hDc⟩ rfl rfl hl.1 rfl (lv_room (Nat.le_of_ble_eq_true rfl)) dX11_gate_21 (le2 rfl rfl)) hS (fun q _ h => hFc q h) hFc (fun q _ h => hFc q h) (fun E ce q9 u t H locs ht1 hvm hw hB hz1 hk1 hS hcell hv9 hcl => ?_) (fun u t H locs ht1 hvm hw hB hz1 hk1 hS => ?_)
      · obtain ⟨rfl, hB⟩ := hB
        exact out0 htab hlocks hS hcell hv9 hcl (fun t _ hF => ⟨(), trivial, (Or.inl ⟨rfl, (Or.inl c_1)⟩), hF⟩) (fun _ h => h) rfl rfl
      · exact hw.elim
    · exact absurd c_2 (by decide)
  · obtain ⟨rfl, hw⟩ := hw
    have c_3 := hw
    refine lv_istore (lv' := [(4, .int 1), (0, .ref (a 0)), (1, .int p0), (2, .int p1), (3, .int p2)]) hx hb dX11_gate_4 hl (by decide) rfl (fun ls hl => ?_)
    refine lv_iload hx hb dX11_gate_6 (lv_at hl 0 rfl) ?_
    refine lv_if_ne (tgt := 19) hx hb dX11_gate_8 (by decide) (fun c_4 => ?_) (fun c_4 => ?_)
    · refine lv_aload_n hx hb dX11_gate_19 rfl (lv_at hl 1 rfl) ?_
      refine lv_iload_n hx hb dX11_gate_20 rfl (lv_at hl 3 rfl) ?_
      have hPc : va_P D vwCl [((a 0), f_x a), ((a 1), f_net a)] _ := (ro0 hP0 hS).sub (ws' := [((a 0), f_x a), ((a 1), f_net a)]) [0, 1] rfl
      have hDc : va_D (fun q => z0 ≤ q) [((a 0), f_x a), ((a 1), f_net a)] := hD0.pick (ws' := [((a 0), f_x a), ((a 1), f_net a)]) [0, 1] (by decide) rfl
      have hFc := AnA (ws := []) hS.1
      refine vx_callv (vx_runV (As := [.int p1]) (rest := []) ⟨hx, hb, hml, hown, ht⟩ (k_X11_needLine l hfl D g z0 _ a p1) (cwV 1 ht (gV w_80 w_82 w_83 w_31 w_81) rfl rfl rfl (by decide +kernel) (le2 rfl rfl)) ⟨PP.blind, va_recv hK.1 (ro0 hP0 hS) (ci := 17) (q0 := 0) rfl rfl, PP.mk' hK hZ hz hAz hS hPc hDc⟩ rfl rfl hl.1 rfl (lv_room (Nat.le_of_ble_eq_true rfl)) dX11_gate_21 (le2 rfl rfl)) hS (fun q _ h => hFc q h) hFc (fun q _ h => hFc q h) (fun E ce q9 u t H locs ht1 hvm hw hB hz1 hk1 hS hcell hv9 hcl => ?_) (fun u t H locs ht1 hvm hw hB hz1 hk1 hS => ?_)
      · obtain ⟨rfl, hB⟩ := hB
        exact out0 htab hlocks hS hcell hv9 hcl (fun t _ hF => ⟨(), trivial, (Or.inl ⟨rfl, (Or.inr c_3)⟩), hF⟩) (fun _ h => h) rfl rfl
      · exact hw.elim
    · exact absurd c_4 (by decide)
  · obtain ⟨rfl, hw⟩ := hw
    obtain ⟨c_5, c_6⟩ := hw
    refine lv_istore (lv' := [(4, .int 0), (0, .ref (a 0)), (1, .int p0), (2, .int p1), (3, .int p2)]) hx hb dX11_gate_4 hl (by decide) rfl (fun ls hl => ?_)
    refine lv_iload hx hb dX11_gate_6 (lv_at hl 0 rfl) ?_
    refine lv_if_ne (tgt := 19) hx hb dX11_gate_8 (by decide) (fun c_7 => ?_) (fun c_7 => ?_)
    · exact absurd c_7 (by decide)
    · exact thr0 hx hb hfl hown ht hK.2.2 hZ hAz hS hl hml htab hlocks (by decide +kernel) w_41 w_42 at_X11_116 dX11_gate_11 dX11_gate_14 dX11_gate_15 dX11_gate_18 rfl rfl rfl rfl (fun t _ hF => ⟨(), trivial, (Or.inr ⟨rfl, ⟨c_5, c_6⟩⟩), hF⟩) (fun _ h => h) rfl rfl
set_option maxHeartbeats 4000000 in
set_option maxRecDepth 100000 in
theorem k_X11_needWire (l : Launch) (hfl : l.stackTraces = false) (D : va_G) (g : Nat → ClassId) (z0 sz : Nat) (a : Nat → Nat) (p0 : Int32) : vx_Met l yX11_needWire (.code yX11_needWire cX11_needWire 2 none :: TG) (rmk 6 1 6 81) (va_Pc [.ref (a 0), .int p0] (PP D g z0 sz [((a 0), f_x a), ((a 10), f_wires a)])) (va_Qv (fun (u : Unit) => False) (fun (_ : Unit) (_ : State) => True) (va_A [] sz)) (vx_X (fun _ : Unit => True) (fun E _ _ => (E = "java/lang/IndexOutOfBoundsException" ∧ True)) (va_A [] sz)) 1 6 (va_A [] sz) := by
  refine vxm0 (cc := cX11_needWire) (n := 2) (by decide) (Nat.le_of_ble_eq_true rfl) ?_
  intro p e s m args below meth c hx hb hr hml htab hown ht hlocks hnm hP0 hD0 hK hZ hsz hz ls hl
  subst hsz
  have hA : ∀ q : Nat, s.heap.size ≤ q → va_A [] s.heap.size q := Anw
  have hAz : ∀ q, va_A [] s.heap.size q → z0 ≤ q := A0z hz
  have hS : va_S (va_A [] s.heap.size) s.heap s.heap [] := va_S.rf
  have hl : lv_has ls 2 [(0, .ref (a 0)), (1, .int p0)] := hl
  refine lv_iload_n hx hb dX11_needWire_0 rfl (lv_at hl 1 rfl) ?_
  refine lv_if_lt (tgt := 15) hx hb dX11_needWire_1 (by decide) (fun c_1 => ?_) (fun c_1 => ?_)
  · exact thr0 hx hb hfl hown ht hK.2.2 hZ hAz hS hl hml htab hlocks (by decide +kernel) w_35 w_36 at_X11_102 dX11_needWire_15 dX11_needWire_18 dX11_needWire_19 dX11_needWire_22 rfl rfl rfl rfl (fun t _ hF => ⟨(), trivial, ⟨rfl, trivial⟩, hF⟩) (fun _ h => h) rfl rfl
  · refine lv_iload_n hx hb dX11_needWire_4 rfl (lv_at hl 1 rfl) ?_
    refine lv_aload_n hx hb dX11_needWire_5 rfl (lv_at hl 0 rfl) ?_
    refine va_get (D := D) (ci := 17) (v := .ref (a 10)) (C := RX11) (T := TX11) (N := 11) hx hb ht in_X11 hown hK.1 (ro0 hP0 hS) 0 rfl rfl 9 (by decide) (ht _ w_47) (fun _ h9 => h9) rfl dX11_needWire_6 ?_
    refine va_get (D := D) (ci := 6) (v := .int 0) (C := RX0) (T := TX0) (N := 4) hx hb ht in_X0 hown hK.1 (ro0 hP0 hS) 1 rfl rfl 2 (by decide) (ht _ w_48) (fun _ h9 => h9) rfl dX11_needWire_9 ?_
    refine lv_icmp_lt (tgt := 23) hx hb dX11_needWire_12 (by decide) (fun c_2 => ?_) (fun c_2 => ?_)
    · exact absurd c_2 c_1
    · exact thr0 hx hb hfl hown ht hK.2.2 hZ hAz hS hl hml htab hlocks (by decide +kernel) w_35 w_36 at_X11_102 dX11_needWire_15 dX11_needWire_18 dX11_needWire_19 dX11_needWire_22 rfl rfl rfl rfl (fun t _ hF => ⟨(), trivial, ⟨rfl, trivial⟩, hF⟩) (fun _ h => h) rfl rfl
set_option maxHeartbeats 4000000 in
set_option maxRecDepth 100000 in
theorem k_X11_got (l : Launch) (hfl : l.stackTraces = false) (D : va_G) (g : Nat → ClassId) (z0 sz : Nat) (a : Nat → Nat) (p0 : Int32) (p1 : Int32) (hc_p1 : isC p1) : vx_Met l yX11_got (.code yX11_got cX11_got 3 (some .int) :: TG) (rmk 7 1 6 102) (va_Pc [.ref (a 0), .int p0, .int p1] (PP D g z0 sz [((a 0), f_x a), ((a 10), f_wires a)])) (va_Qi (fun (r : Int32) (u : Unit) => False) (fun (_ : Unit) (_ : State) => True) (va_A [] sz)) (vx_X (fun _ : Unit => True) (fun E _ _ => (E = "java/lang/IndexOutOfBoundsException" ∧ True)) (va_A [] sz)) 1 6 (va_A [] sz) := by
  refine vxm0 (cc := cX11_got) (n := 3) (by decide) (Nat.le_of_ble_eq_true rfl) ?_
  intro p e s m args below meth c hx hb hr hml htab hown ht hlocks hnm hP0 hD0 hK hZ hsz hz ls hl
  subst hsz
  have hA : ∀ q : Nat, s.heap.size ≤ q → va_A [] s.heap.size q := Anw
  have hAz : ∀ q, va_A [] s.heap.size q → z0 ≤ q := A0z hz
  have hS : va_S (va_A [] s.heap.size) s.heap s.heap [] := va_S.rf
  have hl : lv_has ls 3 [(0, .ref (a 0)), (1, .int p0), (2, .int p1)] := hl
  refine lv_aload_n hx hb dX11_got_0 rfl (lv_at hl 0 rfl) ?_
  refine lv_iload_n hx hb dX11_got_1 rfl (lv_at hl 1 rfl) ?_
  have hPc : va_P D vwCl [((a 0), f_x a), ((a 10), f_wires a)] _ := (ro0 hP0 hS).sub (ws' := [((a 0), f_x a), ((a 10), f_wires a)]) [0, 1] rfl
  have hDc : va_D (fun q => z0 ≤ q) [((a 0), f_x a), ((a 10), f_wires a)] := hD0.pick (ws' := [((a 0), f_x a), ((a 10), f_wires a)]) [0, 1] (by decide) rfl
  have hFc := AnA (ws := []) hS.1
  refine vx_callv (vx_runV (As := [.int p0]) (rest := []) ⟨hx, hb, hml, hown, ht⟩ (k_X11_needWire l hfl D g z0 _ a p0) (cwV 1 ht (gV w_190 w_192 w_193 w_31 w_191) rfl rfl rfl (by decide +kernel) (le2 rfl rfl)) ⟨PP.blind, va_recv hK.1 (ro0 hP0 hS) (ci := 17) (q0 := 0) rfl rfl, PP.mk' hK hZ hz hAz hS hPc hDc⟩ rfl rfl hl.1 rfl (lv_room (Nat.le_of_ble_eq_true rfl)) dX11_got_2 (le2 rfl rfl)) hS (fun q _ h => hFc q h) hFc (fun q _ h => hFc q h) (fun E ce q9 u t H locs ht1 hvm hw hB hz1 hk1 hS hcell hv9 hcl => ?_) (fun u t H locs ht1 hvm hw hB hz1 hk1 hS => ?_)
  · obtain ⟨rfl, hB⟩ := hB
    exact out0 htab hlocks hS hcell hv9 hcl (fun t _ hF => ⟨(), trivial, ⟨rfl, trivial⟩, hF⟩) (fun _ h => h) rfl rfl
  · exact hw.elim
set_option maxHeartbeats 4000000 in
set_option maxRecDepth 100000 in
theorem k_X10_wordsOfWays (l : Launch) (D : va_G) (g : Nat → ClassId) (z0 sz : Nat) (a : Nat → Nat) : Met l yX10_wordsOfWays (.code yX10_wordsOfWays cX10_wordsOfWays 1 (some .int) :: TG) (rmk 0 0 0 0) (va_Pc [.ref (a 4)] (PP D g z0 sz [((a 4), f_words a), ((a 1), f_net a)])) (va_Qi (fun (r : Int32) (u : Unit) => (r = 1) ∧ True) (fun (_ : Unit) (_ : State) => True) (va_A [] sz)) 0 0 (va_A [] sz) := by
  refine met0 (cc := cX10_wordsOfWays) (n := 1) (by decide) (Nat.le_of_ble_eq_true rfl) ?_
  intro p e s m args below meth c hx hb hr hml hown ht hlocks hnm hP0 hD0 hK hZ hsz hz ls hl
  subst hsz
  have hA : ∀ q : Nat, s.heap.size ≤ q → va_A [] s.heap.size q := Anw
  have hAz : ∀ q, va_A [] s.heap.size q → z0 ≤ q := A0z hz
  have hS : va_S (va_A [] s.heap.size) s.heap s.heap [] := va_S.rf
  have hl : lv_has ls 1 [(0, .ref (a 4))] := hl
  refine lv_aload_n hx hb dX10_wordsOfWays_0 rfl (lv_at hl 0 rfl) ?_
  refine va_get (D := D) (ci := 16) (v := .ref (a 1)) (C := RX10) (T := TX10) (N := 17) hx hb ht in_X10 hown hK.1 (ro0 hP0 hS) 0 rfl rfl 0 (by decide) (ht _ w_20) (fun _ h9 => h9) rfl dX10_wordsOfWays_1 ?_
  refine va_get (D := D) (ci := 12) (v := .int 0) (C := RX6) (T := TX6) (N := 18) hx hb ht in_X6 hown hK.1 (ro0 hP0 hS) 1 rfl rfl 13 (by decide) (ht _ w_196) (fun _ h9 => h9) rfl dX10_wordsOfWays_4 ?_
  refine lv_bipush (v := 6) hx hb dX10_wordsOfWays_7 (by decide) ?_
  refine lv_icmp_le (tgt := 27) hx hb dX10_wordsOfWays_9 (by decide) (fun c_1 => ?_) (fun c_1 => ?_)
  · refine lv_iconst (v := 1) hx hb dX10_wordsOfWays_27 (by decide) ?_
    refine W.widen (k := 0) (n := 0) (Nat.le_of_ble_eq_true rfl) (Nat.le_of_ble_eq_true rfl) ?_
    exact W.iret (v := 1) hx hb hr (fun t ht9 hW9 => ⟨⟨1, (), rfl, ⟨rfl, trivial⟩, trivial⟩, hS.F ht9⟩) hS.2.2 dX10_wordsOfWays_28 hlocks
  · exact absurd c_1 (by decide)
set_option maxHeartbeats 4000000 in
set_option maxRecDepth 100000 in
theorem k_X10_loadWays (l : Launch) (D : va_G) (g : Nat → ClassId) (z0 sz : Nat) (a : Nat → Nat) : Met l yX10_loadWays (.code yX10_loadWays cX10_loadWays 4 none :: TG) (rmk 0 0 0 0) (va_Pc [.ref (a 4), .int 0] (PP D g z0 sz [((a 4), f_words a), ((a 1), f_net a)])) (va_Qv (fun (u : Unit) => True) (fun (u : Unit) (t : State) => va_P D vwCl [((a 4), .inr (16, [.ref (a 1), .ref (a 2), .ref (a 38), .ref (a 39), .ref (a 40), .ref (a 41), .ref (a 42), .ref (a 43), .ref (a 44), .ref (a 45), .ref (a 46), .ref (a 47), .long 1, .long 0, .long 0, .int 0, .int (-1)])), ((a 1), f_net a)] t.heap ∧ va_D (va_A [((a 4), f_words a), ((a 1), f_net a)] sz) [((a 4), .inr (16, [.ref (a 1), .ref (a 2), .ref (a 38), .ref (a 39), .ref (a 40), .ref (a 41), .ref (a 42), .ref (a 43), .ref (a 44), .ref (a 45), .ref (a 46), .ref (a 47), .long 1, .long 0, .long 0, .int 0, .int (-1)])), ((a 1), f_net a)]) (va_A [((a 4), f_words a), ((a 1), f_net a)] sz)) 0 0 (va_A [((a 4), f_words a), ((a 1), f_net a)] sz) := by
  refine met0 (cc := cX10_loadWays) (n := 4) (by decide) (Nat.le_of_ble_eq_true rfl) ?_
  intro p e s m args below meth c hx hb hr hml hown ht hlocks hnm hP0 hD0 hK hZ hsz hz ls hl
  subst hsz
  have hA : ∀ q : Nat, s.heap.size ≤ q → va_A [((a 4), f_words a), ((a 1), f_net a)] s.heap.size q := Anw
  have hAz : ∀ q, va_A [((a 4), f_words a), ((a 1), f_net a)] s.heap.size q → z0 ≤ q := Awz hz hD0
  have hS : va_S (va_A [((a 4), f_words a), ((a 1), f_net a)] s.heap.size) s.heap s.heap [] := va_S.rf
  have hD : va_D (va_A [((a 4), f_words a), ((a 1), f_net a)] s.heap.size) [((a 4), f_words a), ((a 1), f_net a)] := hD0.self
  have hP : va_P D vwCl [((a 4), f_words a), ((a 1), f_net a)] s.heap := hP0
  have hl : lv_has ls 4 [(0, .ref (a 4)), (1, .int 0)] := hl
  refine lv_aload_n hx hb dX10_loadWays_0 rfl (lv_at hl 0 rfl) ?_
  refine lv_aload_n hx hb dX10_loadWays_1 rfl (lv_at hl 0 rfl) ?_
  refine va_get (D := D) (ci := 16) (v := .ref (a 1)) (C := RX10) (T := TX10) (N := 17) hx hb ht in_X10 hown hK.1 hP 0 rfl rfl 0 (by decide) (ht _ w_20) (fun _ h9 => h9) rfl dX10_loadWays_2 ?_
  refine va_get (D := D) (ci := 12) (v := .int 0) (C := RX6) (T := TX6) (N := 18) hx hb ht in_X6 hown hK.1 hP 1 rfl rfl 13 (by decide) (ht _ w_196) (fun _ h9 => h9) rfl dX10_loadWays_5 ?_
  refine lv_bipush (v := 6) hx hb dX10_loadWays_8 (by decide) ?_
  refine lv_icmp_lt (tgt := 19) hx hb dX10_loadWays_10 (by decide) (fun c_1 => ?_) (fun c_1 => ?_)
  · refine lv_lconst (v := 1) hx hb dX10_loadWays_19 (by decide) ?_
    refine lv_iconst (v := 1) hx hb dX10_loadWays_20 (by decide) ?_
    refine lv_aload_n hx hb dX10_loadWays_21 rfl (lv_at hl 0 rfl) ?_
    refine va_get (D := D) (ci := 16) (v := .ref (a 1)) (C := RX10) (T := TX10) (N := 17) hx hb ht in_X10 hown hK.1 hP 0 rfl rfl 0 (by decide) (ht _ w_20) (fun _ h9 => h9) rfl dX10_loadWays_22 ?_
    refine va_get (D := D) (ci := 12) (v := .int 0) (C := RX6) (T := TX6) (N := 18) hx hb ht in_X6 hown hK.1 hP 1 rfl rfl 13 (by decide) (ht _ w_196) (fun _ h9 => h9) rfl dX10_loadWays_25 ?_
    refine lv_ishl hx hb dX10_loadWays_28 ?_
    refine r_topi (v := 1) (by decide) ?_
    refine lv_lshl (v := 2) hx hb dX10_loadWays_29 (by decide) ?_
    refine lv_lconst (v := 1) hx hb dX10_loadWays_30 (by decide) ?_
    refine lv_lsub hx hb dX10_loadWays_31 ?_
    refine r_topl (v := 1) (by decide) ?_
    refine va_put (D := D) (ci := 16) (v := .long 1) (ty := .long) (C := RX10) (T := TX10) (N := 17) hx hb ht in_X10 tyX10 tyX10_ok nmX10 hown hK.1 hP hD hS 0 rfl rfl 12 (by decide) (ht _ w_3) (fun _ h9 => h9) rfl (by decide +kernel) rfl rfl (Nat.le_of_ble_eq_true rfl) dX10_loadWays_32 (fun H locs hP hD hS => ?_)
    have hP : va_P D vwCl [((a 4), .inr (16, [.ref (a 1), .ref (a 2), .ref (a 38), .ref (a 39), .ref (a 40), .ref (a 41), .ref (a 42), .ref (a 43), .ref (a 44), .ref (a 45), .ref (a 46), .ref (a 47), .long 1, .long 0, .long 0, .int 0, .int (-1)])), ((a 1), f_net a)] H := hP
    have hD : va_D (va_A [((a 4), f_words a), ((a 1), f_net a)] s.heap.size) [((a 4), .inr (16, [.ref (a 1), .ref (a 2), .ref (a 38), .ref (a 39), .ref (a 40), .ref (a 41), .ref (a 42), .ref (a 43), .ref (a 44), .ref (a 45), .ref (a 46), .ref (a 47), .long 1, .long 0, .long 0, .int 0, .int (-1)])), ((a 1), f_net a)] := hD
    refine lv_iconst (v := 0) hx hb dX10_loadWays_35 (by decide) ?_
    refine lv_istore_n (lv' := [(2, .int 0), (0, .ref (a 4)), (1, .int 0)]) hx hb dX10_loadWays_36 rfl hl (by decide) rfl (fun ls hl => ?_)
    refine lv_iload_n hx hb dX10_loadWays_37 rfl (lv_at hl 0 rfl) ?_
    refine lv_aload_n hx hb dX10_loadWays_38 rfl (lv_at hl 1 rfl) ?_
    refine va_get (D := D) (ci := 16) (v := .ref (a 1)) (C := RX10) (T := TX10) (N := 17) hx hb ht in_X10 hown hK.1 hP 0 rfl rfl 0 (by decide) (ht _ w_20) (fun _ h9 => h9) rfl dX10_loadWays_39 ?_
    refine va_get (D := D) (ci := 12) (v := .int 0) (C := RX6) (T := TX6) (N := 18) hx hb ht in_X6 hown hK.1 hP 1 rfl rfl 13 (by decide) (ht _ w_196) (fun _ h9 => h9) rfl dX10_loadWays_42 ?_
    refine lv_icmp_ge (tgt := 114) hx hb dX10_loadWays_45 (by decide) (fun c_2 => ?_) (fun c_2 => ?_)
    · have hP9 := hP.sub (ws' := [((a 4), .inr (16, [.ref (a 1), .ref (a 2), .ref (a 38), .ref (a 39), .ref (a 40), .ref (a 41), .ref (a 42), .ref (a 43), .ref (a 44), .ref (a 45), .ref (a 46), .ref (a 47), .long 1, .long 0, .long 0, .int 0, .int (-1)])), ((a 1), f_net a)]) [0, 1] rfl
      have hD9 := hD.sub (ws' := [((a 4), .inr (16, [.ref (a 1), .ref (a 2), .ref (a 38), .ref (a 39), .ref (a 40), .ref (a 41), .ref (a 42), .ref (a 43), .ref (a 44), .ref (a 45), .ref (a 46), .ref (a 47), .long 1, .long 0, .long 0, .int 0, .int (-1)])), ((a 1), f_net a)]) [0, 1] (by decide) rfl
      refine W.widen (k := 0) (n := 0) (Nat.le_of_ble_eq_true rfl) (Nat.le_of_ble_eq_true rfl) ?_
      exact W.vret hx hb hr (fun t ht9 hW9 => ⟨⟨(), rfl, trivial, ⟨(by rw [ht9]; exact hP9), hD9⟩⟩, hS.F ht9⟩) hS.2.2 dX10_loadWays_114 hlocks
    · exact absurd c_2 (by decide)
  · exact absurd c_1 (by decide)
set_option maxHeartbeats 4000000 in
set_option maxRecDepth 100000 in
theorem k_X10_runGood_v1 (l : Launch) (D : va_G) (g : Nat → ClassId) (z0 sz : Nat) (a : Nat → Nat) : Met l yX10_runGood (.code yX10_runGood cX10_runGood 5 none :: TG) (rmk 0 0 0 0) (va_Pc [.ref (a 4)] (PP D g z0 sz [((a 4), .inr (16, [.ref (a 1), .ref (a 2), .ref (a 38), .ref (a 39), .ref (a 40), .ref (a 41), .ref (a 42), .ref (a 43), .ref (a 44), .ref (a 45), .ref (a 46), .ref (a 47), .long 1, .long 0, .long 0, .int 0, .int (-1)])), ((a 1), f_net a)])) (va_Qv (fun (u : Unit) => True) (fun (u : Unit) (t : State) => va_P D vwCl [((a 4), .inr (16, [.ref (a 1), .ref (a 2), .ref (a 38), .ref (a 39), .ref (a 40), .ref (a 41), .ref (a 42), .ref (a 43), .ref (a 44), .ref (a 45), .ref (a 46), .ref (a 47), .long 1, .long 0, .long 0, .int 0, .int (-1)])), ((a 1), f_net a)] t.heap ∧ va_D (va_A [((a 4), .inr (16, [.ref (a 1), .ref (a 2), .ref (a 38), .ref (a 39), .ref (a 40), .ref (a 41), .ref (a 42), .ref (a 43), .ref (a 44), .ref (a 45), .ref (a 46), .ref (a 47), .long 1, .long 0, .long 0, .int 0, .int (-1)])), ((a 1), f_net a)] sz) [((a 4), .inr (16, [.ref (a 1), .ref (a 2), .ref (a 38), .ref (a 39), .ref (a 40), .ref (a 41), .ref (a 42), .ref (a 43), .ref (a 44), .ref (a 45), .ref (a 46), .ref (a 47), .long 1, .long 0, .long 0, .int 0, .int (-1)])), ((a 1), f_net a)]) (va_A [((a 4), .inr (16, [.ref (a 1), .ref (a 2), .ref (a 38), .ref (a 39), .ref (a 40), .ref (a 41), .ref (a 42), .ref (a 43), .ref (a 44), .ref (a 45), .ref (a 46), .ref (a 47), .long 1, .long 0, .long 0, .int 0, .int (-1)])), ((a 1), f_net a)] sz)) 0 0 (va_A [((a 4), .inr (16, [.ref (a 1), .ref (a 2), .ref (a 38), .ref (a 39), .ref (a 40), .ref (a 41), .ref (a 42), .ref (a 43), .ref (a 44), .ref (a 45), .ref (a 46), .ref (a 47), .long 1, .long 0, .long 0, .int 0, .int (-1)])), ((a 1), f_net a)] sz) := by
  refine met0 (cc := cX10_runGood) (n := 5) (by decide) (Nat.le_of_ble_eq_true rfl) ?_
  intro p e s m args below meth c hx hb hr hml hown ht hlocks hnm hP0 hD0 hK hZ hsz hz ls hl
  subst hsz
  have hA : ∀ q : Nat, s.heap.size ≤ q → va_A [((a 4), .inr (16, [.ref (a 1), .ref (a 2), .ref (a 38), .ref (a 39), .ref (a 40), .ref (a 41), .ref (a 42), .ref (a 43), .ref (a 44), .ref (a 45), .ref (a 46), .ref (a 47), .long 1, .long 0, .long 0, .int 0, .int (-1)])), ((a 1), f_net a)] s.heap.size q := Anw
  have hAz : ∀ q, va_A [((a 4), .inr (16, [.ref (a 1), .ref (a 2), .ref (a 38), .ref (a 39), .ref (a 40), .ref (a 41), .ref (a 42), .ref (a 43), .ref (a 44), .ref (a 45), .ref (a 46), .ref (a 47), .long 1, .long 0, .long 0, .int 0, .int (-1)])), ((a 1), f_net a)] s.heap.size q → z0 ≤ q := Awz hz hD0
  have hS : va_S (va_A [((a 4), .inr (16, [.ref (a 1), .ref (a 2), .ref (a 38), .ref (a 39), .ref (a 40), .ref (a 41), .ref (a 42), .ref (a 43), .ref (a 44), .ref (a 45), .ref (a 46), .ref (a 47), .long 1, .long 0, .long 0, .int 0, .int (-1)])), ((a 1), f_net a)] s.heap.size) s.heap s.heap [] := va_S.rf
  have hD : va_D (va_A [((a 4), .inr (16, [.ref (a 1), .ref (a 2), .ref (a 38), .ref (a 39), .ref (a 40), .ref (a 41), .ref (a 42), .ref (a 43), .ref (a 44), .ref (a 45), .ref (a 46), .ref (a 47), .long 1, .long 0, .long 0, .int 0, .int (-1)])), ((a 1), f_net a)] s.heap.size) [((a 4), .inr (16, [.ref (a 1), .ref (a 2), .ref (a 38), .ref (a 39), .ref (a 40), .ref (a 41), .ref (a 42), .ref (a 43), .ref (a 44), .ref (a 45), .ref (a 46), .ref (a 47), .long 1, .long 0, .long 0, .int 0, .int (-1)])), ((a 1), f_net a)] := hD0.self
  have hP : va_P D vwCl [((a 4), .inr (16, [.ref (a 1), .ref (a 2), .ref (a 38), .ref (a 39), .ref (a 40), .ref (a 41), .ref (a 42), .ref (a 43), .ref (a 44), .ref (a 45), .ref (a 46), .ref (a 47), .long 1, .long 0, .long 0, .int 0, .int (-1)])), ((a 1), f_net a)] s.heap := hP0
  have hl : lv_has ls 5 [(0, .ref (a 4))] := hl
  refine lv_aload_n hx hb dX10_runGood_0 rfl (lv_at hl 0 rfl) ?_
  refine lv_lconst (v := 0) hx hb dX10_runGood_1 (by decide) ?_
  refine va_put (D := D) (ci := 16) (v := .long 0) (ty := .long) (C := RX10) (T := TX10) (N := 17) hx hb ht in_X10 tyX10 tyX10_ok nmX10 hown hK.1 hP hD hS 0 rfl rfl 14 (by decide) (ht _ w_19) (fun _ h9 => h9) rfl (by decide +kernel) rfl rfl (Nat.le_of_ble_eq_true rfl) dX10_runGood_2 (fun H locs hP hD hS => ?_)
  have hP : va_P D vwCl [((a 4), .inr (16, [.ref (a 1), .ref (a 2), .ref (a 38), .ref (a 39), .ref (a 40), .ref (a 41), .ref (a 42), .ref (a 43), .ref (a 44), .ref (a 45), .ref (a 46), .ref (a 47), .long 1, .long 0, .long 0, .int 0, .int (-1)])), ((a 1), f_net a)] H := hP
  have hD : va_D (va_A [((a 4), .inr (16, [.ref (a 1), .ref (a 2), .ref (a 38), .ref (a 39), .ref (a 40), .ref (a 41), .ref (a 42), .ref (a 43), .ref (a 44), .ref (a 45), .ref (a 46), .ref (a 47), .long 1, .long 0, .long 0, .int 0, .int (-1)])), ((a 1), f_net a)] s.heap.size) [((a 4), .inr (16, [.ref (a 1), .ref (a 2), .ref (a 38), .ref (a 39), .ref (a 40), .ref (a 41), .ref (a 42), .ref (a 43), .ref (a 44), .ref (a 45), .ref (a 46), .ref (a 47), .long 1, .long 0, .long 0, .int 0, .int (-1)])), ((a 1), f_net a)] := hD
  refine lv_iconst (v := 0) hx hb dX10_runGood_5 (by decide) ?_
  refine lv_istore_n (lv' := [(1, .int 0), (0, .ref (a 4))]) hx hb dX10_runGood_6 rfl hl (by decide) rfl (fun ls hl => ?_)
  refine lv_iload_n hx hb dX10_runGood_7 rfl (lv_at hl 0 rfl) ?_
  refine lv_aload_n hx hb dX10_runGood_8 rfl (lv_at hl 1 rfl) ?_
  refine va_get (D := D) (ci := 16) (v := .ref (a 1)) (C := RX10) (T := TX10) (N := 17) hx hb ht in_X10 hown hK.1 hP 0 rfl rfl 0 (by decide) (ht _ w_20) (fun _ h9 => h9) rfl dX10_runGood_9 ?_
  refine va_get (D := D) (ci := 12) (v := .int 0) (C := RX6) (T := TX6) (N := 18) hx hb ht in_X6 hown hK.1 hP 1 rfl rfl 12 (by decide) (ht _ w_21) (fun _ h9 => h9) rfl dX10_runGood_12 ?_
  refine lv_icmp_ge (tgt := 240) hx hb dX10_runGood_15 (by decide) (fun c_1 => ?_) (fun c_1 => ?_)
  · have hP9 := hP.sub (ws' := [((a 4), .inr (16, [.ref (a 1), .ref (a 2), .ref (a 38), .ref (a 39), .ref (a 40), .ref (a 41), .ref (a 42), .ref (a 43), .ref (a 44), .ref (a 45), .ref (a 46), .ref (a 47), .long 1, .long 0, .long 0, .int 0, .int (-1)])), ((a 1), f_net a)]) [0, 1] rfl
    have hD9 := hD.sub (ws' := [((a 4), .inr (16, [.ref (a 1), .ref (a 2), .ref (a 38), .ref (a 39), .ref (a 40), .ref (a 41), .ref (a 42), .ref (a 43), .ref (a 44), .ref (a 45), .ref (a 46), .ref (a 47), .long 1, .long 0, .long 0, .int 0, .int (-1)])), ((a 1), f_net a)]) [0, 1] (by decide) rfl
    refine W.widen (k := 0) (n := 0) (Nat.le_of_ble_eq_true rfl) (Nat.le_of_ble_eq_true rfl) ?_
    exact W.vret hx hb hr (fun t ht9 hW9 => ⟨⟨(), rfl, trivial, ⟨(by rw [ht9]; exact hP9), hD9⟩⟩, hS.F ht9⟩) hS.2.2 dX10_runGood_240 hlocks
  · exact absurd c_1 (by decide)
set_option maxHeartbeats 4000000 in
set_option maxRecDepth 100000 in
theorem k_X10_wordsOfWays_v1 (l : Launch) (D : va_G) (g : Nat → ClassId) (z0 sz : Nat) (a : Nat → Nat) : Met l yX10_wordsOfWays (.code yX10_wordsOfWays cX10_wordsOfWays 1 (some .int) :: TG) (rmk 0 0 0 0) (va_Pc [.ref (a 4)] (PP D g z0 sz [((a 4), .inr (16, [.ref (a 1), .ref (a 2), .ref (a 38), .ref (a 39), .ref (a 40), .ref (a 41), .ref (a 42), .ref (a 43), .ref (a 44), .ref (a 45), .ref (a 46), .ref (a 47), .long 1, .long 0, .long 0, .int 0, .int (-1)])), ((a 1), f_net a)])) (va_Qi (fun (r : Int32) (u : Unit) => (r = 1) ∧ True) (fun (_ : Unit) (_ : State) => True) (va_A [] sz)) 0 0 (va_A [] sz) := by
  refine met0 (cc := cX10_wordsOfWays) (n := 1) (by decide) (Nat.le_of_ble_eq_true rfl) ?_
  intro p e s m args below meth c hx hb hr hml hown ht hlocks hnm hP0 hD0 hK hZ hsz hz ls hl
  subst hsz
  have hA : ∀ q : Nat, s.heap.size ≤ q → va_A [] s.heap.size q := Anw
  have hAz : ∀ q, va_A [] s.heap.size q → z0 ≤ q := A0z hz
  have hS : va_S (va_A [] s.heap.size) s.heap s.heap [] := va_S.rf
  have hl : lv_has ls 1 [(0, .ref (a 4))] := hl
  refine lv_aload_n hx hb dX10_wordsOfWays_0 rfl (lv_at hl 0 rfl) ?_
  refine va_get (D := D) (ci := 16) (v := .ref (a 1)) (C := RX10) (T := TX10) (N := 17) hx hb ht in_X10 hown hK.1 (ro0 hP0 hS) 0 rfl rfl 0 (by decide) (ht _ w_20) (fun _ h9 => h9) rfl dX10_wordsOfWays_1 ?_
  refine va_get (D := D) (ci := 12) (v := .int 0) (C := RX6) (T := TX6) (N := 18) hx hb ht in_X6 hown hK.1 (ro0 hP0 hS) 1 rfl rfl 13 (by decide) (ht _ w_196) (fun _ h9 => h9) rfl dX10_wordsOfWays_4 ?_
  refine lv_bipush (v := 6) hx hb dX10_wordsOfWays_7 (by decide) ?_
  refine lv_icmp_le (tgt := 27) hx hb dX10_wordsOfWays_9 (by decide) (fun c_1 => ?_) (fun c_1 => ?_)
  · refine lv_iconst (v := 1) hx hb dX10_wordsOfWays_27 (by decide) ?_
    refine W.widen (k := 0) (n := 0) (Nat.le_of_ble_eq_true rfl) (Nat.le_of_ble_eq_true rfl) ?_
    exact W.iret (v := 1) hx hb hr (fun t ht9 hW9 => ⟨⟨1, (), rfl, ⟨rfl, trivial⟩, trivial⟩, hS.F ht9⟩) hS.2.2 dX10_wordsOfWays_28 hlocks
  · exact absurd c_1 (by decide)
set_option maxHeartbeats 4000000 in
set_option maxRecDepth 100000 in
theorem k_X10_countAllWays (l : Launch) (D : va_G) (g : Nat → ClassId) (z0 sz : Nat) (a : Nat → Nat) : Met l yX10_countAllWays (.code yX10_countAllWays cX10_countAllWays 3 none :: TG) (rmk 1 0 0 24) (va_Pc [.ref (a 4)] (PP D g z0 sz [((a 4), f_words a), ((a 47), .inl (g 0, 256, .inl (fun _ => 0))), ((a 1), f_net a), ((a 2), f_book a)])) (va_Qv (fun (u : Unit) => True) (fun (u : Unit) (t : State) => va_P D vwCl [((a 2), f_book a), ((a 47), .inl (g 0, 256, .inl (fun _ => 0))), ((a 4), .inr (16, [.ref (a 1), .ref (a 2), .ref (a 38), .ref (a 39), .ref (a 40), .ref (a 41), .ref (a 42), .ref (a 43), .ref (a 44), .ref (a 45), .ref (a 46), .ref (a 47), .long 1, .long 0, .long 0, .int 0, .int (-1)])), ((a 1), f_net a)] t.heap ∧ va_D (va_A [((a 4), f_words a), ((a 47), .inl (g 0, 256, .inl (fun _ => 0))), ((a 1), f_net a), ((a 2), f_book a)] sz) [((a 2), f_book a), ((a 47), .inl (g 0, 256, .inl (fun _ => 0))), ((a 4), .inr (16, [.ref (a 1), .ref (a 2), .ref (a 38), .ref (a 39), .ref (a 40), .ref (a 41), .ref (a 42), .ref (a 43), .ref (a 44), .ref (a 45), .ref (a 46), .ref (a 47), .long 1, .long 0, .long 0, .int 0, .int (-1)])), ((a 1), f_net a)]) (va_A [((a 4), f_words a), ((a 47), .inl (g 0, 256, .inl (fun _ => 0))), ((a 1), f_net a), ((a 2), f_book a)] sz)) 0 0 (va_A [((a 4), f_words a), ((a 47), .inl (g 0, 256, .inl (fun _ => 0))), ((a 1), f_net a), ((a 2), f_book a)] sz) := by
  refine met0 (cc := cX10_countAllWays) (n := 3) (by decide) (Nat.le_of_ble_eq_true rfl) ?_
  intro p e s m args below meth c hx hb hr hml hown ht hlocks hnm hP0 hD0 hK hZ hsz hz ls hl
  subst hsz
  have hA : ∀ q : Nat, s.heap.size ≤ q → va_A [((a 4), f_words a), ((a 47), .inl (g 0, 256, .inl (fun _ => 0))), ((a 1), f_net a), ((a 2), f_book a)] s.heap.size q := Anw
  have hAz : ∀ q, va_A [((a 4), f_words a), ((a 47), .inl (g 0, 256, .inl (fun _ => 0))), ((a 1), f_net a), ((a 2), f_book a)] s.heap.size q → z0 ≤ q := Awz hz hD0
  have hS : va_S (va_A [((a 4), f_words a), ((a 47), .inl (g 0, 256, .inl (fun _ => 0))), ((a 1), f_net a), ((a 2), f_book a)] s.heap.size) s.heap s.heap [] := va_S.rf
  have hD : va_D (va_A [((a 4), f_words a), ((a 47), .inl (g 0, 256, .inl (fun _ => 0))), ((a 1), f_net a), ((a 2), f_book a)] s.heap.size) [((a 4), f_words a), ((a 47), .inl (g 0, 256, .inl (fun _ => 0))), ((a 1), f_net a), ((a 2), f_book a)] := hD0.self
  have hP : va_P D vwCl [((a 4), f_words a), ((a 47), .inl (g 0, 256, .inl (fun _ => 0))), ((a 1), f_net a), ((a 2), f_book a)] s.heap := hP0
  have hl : lv_has ls 3 [(0, .ref (a 4))] := hl
  refine lv_aload_n hx hb dX10_countAllWays_0 rfl (lv_at hl 0 rfl) ?_
  refine va_get (D := D) (ci := 16) (v := .ref (a 47)) (C := RX10) (T := TX10) (N := 17) hx hb ht in_X10 hown hK.1 hP 0 rfl rfl 11 (by decide) (ht _ w_194) (fun _ h9 => h9) rfl dX10_countAllWays_1 ?_
  refine lv_iconst (v := 0) hx hb dX10_countAllWays_4 (by decide) ?_
  have hPc : va_P D vwCl [((a 47), .inl (g 0, 256, .inl (fun _ => 0)))] _ := hP.sub (ws' := [((a 47), .inl (g 0, 256, .inl (fun _ => 0)))]) [1] rfl
  have hDc : va_D (fun q => z0 ≤ q) [((a 47), .inl (g 0, 256, .inl (fun _ => 0)))] := (hD.to hAz).pick (ws' := [((a 47), .inl (g 0, 256, .inl (fun _ => 0)))]) [1] (by decide) rfl
  have hFc := va_free (wc := [((a 47), .inl (g 0, 256, .inl (fun _ => 0)))]) hD hS hA [1] rfl
  refine va_callv (va_runS (As := [.ref (a 47), .int 0]) (rest := []) ⟨hx, hb, hml, hown, ht⟩ (k_fillI l D g z0 _ (a 47) 256 (fun _ => 0) 0 (by decide)) (va_cwS 2 ht (gS w_195 w_59 w_8 w_58) rfl rfl rfl (by decide +kernel) (le2 rfl rfl)) ⟨PP.blind, PP.mk' hK hZ hz hAz hS hPc hDc⟩ rfl rfl hl.1 rfl (lv_room (Nat.le_of_ble_eq_true rfl)) dX10_countAllWays_5 (le2 rfl rfl)) hS (fun q _ h => hFc q h) hFc (fun u t H locs ht1 hvm hw hB hz1 hk1 hS => ?_)
  obtain ⟨hP1, hD1⟩ := hB
  rw [ht1] at hP1
  obtain ⟨hP, hD⟩ := va_join (wr := [((a 4), f_words a), ((a 1), f_net a), ((a 2), f_book a)]) (w1 := [((a 47), .inl (g 0, 256, .inl (fun _ => 0)))]) hP hD [1] [0, 2, 3] rfl rfl (by decide) (by decide) hk1 hFc hP1 hD1
  have hP : va_P D vwCl [((a 4), f_words a), ((a 1), f_net a), ((a 2), f_book a), ((a 47), .inl (g 0, 256, .inl (fun _ => 0)))] H := hP
  have hD : va_D (va_A [((a 4), f_words a), ((a 47), .inl (g 0, 256, .inl (fun _ => 0))), ((a 1), f_net a), ((a 2), f_book a)] s.heap.size) [((a 4), f_words a), ((a 1), f_net a), ((a 2), f_book a), ((a 47), .inl (g 0, 256, .inl (fun _ => 0)))] := hD
  refine lv_iconst (v := 0) hx hb dX10_countAllWays_8 (by decide) ?_
  refine lv_istore_n (lv' := [(1, .int 0), (0, .ref (a 4))]) hx hb dX10_countAllWays_9 rfl hl (by decide) rfl (fun ls hl => ?_)
  refine lv_iload_n hx hb dX10_countAllWays_10 rfl (lv_at hl 0 rfl) ?_
  refine lv_aload_n hx hb dX10_countAllWays_11 rfl (lv_at hl 1 rfl) ?_
  have hPc : va_P D vwCl [((a 4), f_words a), ((a 1), f_net a)] _ := hP.sub (ws' := [((a 4), f_words a), ((a 1), f_net a)]) [0, 1] rfl
  have hDc : va_D (fun q => z0 ≤ q) [((a 4), f_words a), ((a 1), f_net a)] := (hD.to hAz).pick (ws' := [((a 4), f_words a), ((a 1), f_net a)]) [0, 1] (by decide) rfl
  have hFc := AnA (ws := [((a 4), f_words a), ((a 47), .inl (g 0, 256, .inl (fun _ => 0))), ((a 1), f_net a), ((a 2), f_book a)]) hS.1
  refine va_calli (va_runV (As := []) (rest := [.int 0]) ⟨hx, hb, hml, hown, ht⟩ (k_X10_wordsOfWays l D g z0 _ a) (cwV 0 ht (gV w_197 w_199 w_200 w_14 w_198) rfl rfl rfl (by decide +kernel) (le2 rfl rfl)) ⟨PP.blind, va_recv hK.1 hP (ci := 16) (q0 := 0) rfl rfl, PP.mk' hK hZ hz hAz hS hPc hDc⟩ rfl rfl hl.1 rfl (lv_room (Nat.le_of_ble_eq_true rfl)) dX10_countAllWays_12 (le2 rfl rfl)) hS (fun q _ h => hFc q h) hFc (fun r u t H locs ht1 hvm hw hB hz1 hk1 hS => ?_)
  obtain ⟨rfl, hw⟩ := hw
  have hP := ro1 hP hk1
  refine lv_icmp_ge (tgt := 80) hx hb dX10_countAllWays_15 (by decide) (fun c_1 => ?_) (fun c_1 => ?_)
  · exact absurd c_1 (by decide)
  · refine lv_aload_n hx hb dX10_countAllWays_18 rfl (lv_at hl 1 rfl) ?_
    refine lv_iload_n hx hb dX10_countAllWays_19 rfl (lv_at hl 0 rfl) ?_
    have hPc : va_P D vwCl [((a 4), f_words a), ((a 1), f_net a)] _ := hP.sub (ws' := [((a 4), f_words a), ((a 1), f_net a)]) [0, 1] rfl
    have hDc : va_D (fun q => z0 ≤ q) [((a 4), f_words a), ((a 1), f_net a)] := (hD.to hAz).pick (ws' := [((a 4), f_words a), ((a 1), f_net a)]) [0, 1] (by decide) rfl
    have hFc := va_free (wc := [((a 4), f_words a), ((a 1), f_net a)]) hD hS hA [0, 1] rfl
    refine va_callv (va_runV (As := [.int 0]) (rest := []) ⟨hx, hb, hml, hown, ht⟩ (k_X10_loadWays l D g z0 _ a) (cwV 1 ht (gV w_201 w_203 w_204 w_14 w_202) rfl rfl rfl (by decide +kernel) (le2 rfl rfl)) ⟨PP.blind, va_recv hK.1 hP (ci := 16) (q0 := 0) rfl rfl, PP.mk' hK hZ hz hAz hS hPc hDc⟩ rfl rfl hl.1 rfl (lv_room (Nat.le_of_ble_eq_true rfl)) dX10_countAllWays_20 (le2 rfl rfl)) hS (fun q _ h => hFc q h) hFc (fun u t H locs ht1 hvm hw hB hz1 hk1 hS => ?_)
    obtain ⟨hP1, hD1⟩ := hB
    rw [ht1] at hP1
    obtain ⟨hP, hD⟩ := va_join (wr := [((a 2), f_book a), ((a 47), .inl (g 0, 256, .inl (fun _ => 0)))]) (w1 := [((a 4), .inr (16, [.ref (a 1), .ref (a 2), .ref (a 38), .ref (a 39), .ref (a 40), .ref (a 41), .ref (a 42), .ref (a 43), .ref (a 44), .ref (a 45), .ref (a 46), .ref (a 47), .long 1, .long 0, .long 0, .int 0, .int (-1)])), ((a 1), f_net a)]) hP hD [0, 1] [2, 3] rfl rfl (by decide) (by decide) hk1 hFc hP1 hD1
    have hP : va_P D vwCl [((a 2), f_book a), ((a 47), .inl (g 0, 256, .inl (fun _ => 0))), ((a 4), .inr (16, [.ref (a 1), .ref (a 2), .ref (a 38), .ref (a 39), .ref (a 40), .ref (a 41), .ref (a 42), .ref (a 43), .ref (a 44), .ref (a 45), .ref (a 46), .ref (a 47), .long 1, .long 0, .long 0, .int 0, .int (-1)])), ((a 1), f_net a)] H := hP
    have hD : va_D (va_A [((a 4), f_words a), ((a 47), .inl (g 0, 256, .inl (fun _ => 0))), ((a 1), f_net a), ((a 2), f_book a)] s.heap.size) [((a 2), f_book a), ((a 47), .inl (g 0, 256, .inl (fun _ => 0))), ((a 4), .inr (16, [.ref (a 1), .ref (a 2), .ref (a 38), .ref (a 39), .ref (a 40), .ref (a 41), .ref (a 42), .ref (a 43), .ref (a 44), .ref (a 45), .ref (a 46), .ref (a 47), .long 1, .long 0, .long 0, .int 0, .int (-1)])), ((a 1), f_net a)] := hD
    refine lv_aload_n hx hb dX10_countAllWays_23 rfl (lv_at hl 1 rfl) ?_
    have hPc : va_P D vwCl [((a 4), .inr (16, [.ref (a 1), .ref (a 2), .ref (a 38), .ref (a 39), .ref (a 40), .ref (a 41), .ref (a 42), .ref (a 43), .ref (a 44), .ref (a 45), .ref (a 46), .ref (a 47), .long 1, .long 0, .long 0, .int 0, .int (-1)])), ((a 1), f_net a)] _ := hP.sub (ws' := [((a 4), .inr (16, [.ref (a 1), .ref (a 2), .ref (a 38), .ref (a 39), .ref (a 40), .ref (a 41), .ref (a 42), .ref (a 43), .ref (a 44), .ref (a 45), .ref (a 46), .ref (a 47), .long 1, .long 0, .long 0, .int 0, .int (-1)])), ((a 1), f_net a)]) [2, 3] rfl
    have hDc : va_D (fun q => z0 ≤ q) [((a 4), .inr (16, [.ref (a 1), .ref (a 2), .ref (a 38), .ref (a 39), .ref (a 40), .ref (a 41), .ref (a 42), .ref (a 43), .ref (a 44), .ref (a 45), .ref (a 46), .ref (a 47), .long 1, .long 0, .long 0, .int 0, .int (-1)])), ((a 1), f_net a)] := (hD.to hAz).pick (ws' := [((a 4), .inr (16, [.ref (a 1), .ref (a 2), .ref (a 38), .ref (a 39), .ref (a 40), .ref (a 41), .ref (a 42), .ref (a 43), .ref (a 44), .ref (a 45), .ref (a 46), .ref (a 47), .long 1, .long 0, .long 0, .int 0, .int (-1)])), ((a 1), f_net a)]) [2, 3] (by decide) rfl
    have hFc := va_free (wc := [((a 4), .inr (16, [.ref (a 1), .ref (a 2), .ref (a 38), .ref (a 39), .ref (a 40), .ref (a 41), .ref (a 42), .ref (a 43), .ref (a 44), .ref (a 45), .ref (a 46), .ref (a 47), .long 1, .long 0, .long 0, .int 0, .int (-1)])), ((a 1), f_net a)]) hD hS hA [2, 3] rfl
    refine va_callv (va_runV (As := []) (rest := []) ⟨hx, hb, hml, hown, ht⟩ (k_X10_runGood_v1 l D g z0 _ a) (cwV 0 ht (gV w_169 w_24 w_25 w_14 w_23) rfl rfl rfl (by decide +kernel) (le2 rfl rfl)) ⟨PP.blind, va_recv hK.1 hP (ci := 16) (q0 := 2) rfl rfl, PP.mk' hK hZ hz hAz hS hPc hDc⟩ rfl rfl hl.1 rfl (lv_room (Nat.le_of_ble_eq_true rfl)) dX10_countAllWays_24 (le2 rfl rfl)) hS (fun q _ h => hFc q h) hFc (fun u t H locs ht1 hvm hw hB hz1 hk1 hS => ?_)
    obtain ⟨hP1, hD1⟩ := hB
    rw [ht1] at hP1
    obtain ⟨hP, hD⟩ := va_join (wr := [((a 2), f_book a), ((a 47), .inl (g 0, 256, .inl (fun _ => 0)))]) (w1 := [((a 4), .inr (16, [.ref (a 1), .ref (a 2), .ref (a 38), .ref (a 39), .ref (a 40), .ref (a 41), .ref (a 42), .ref (a 43), .ref (a 44), .ref (a 45), .ref (a 46), .ref (a 47), .long 1, .long 0, .long 0, .int 0, .int (-1)])), ((a 1), f_net a)]) hP hD [2, 3] [0, 1] rfl rfl (by decide) (by decide) hk1 hFc hP1 hD1
    have hP : va_P D vwCl [((a 2), f_book a), ((a 47), .inl (g 0, 256, .inl (fun _ => 0))), ((a 4), .inr (16, [.ref (a 1), .ref (a 2), .ref (a 38), .ref (a 39), .ref (a 40), .ref (a 41), .ref (a 42), .ref (a 43), .ref (a 44), .ref (a 45), .ref (a 46), .ref (a 47), .long 1, .long 0, .long 0, .int 0, .int (-1)])), ((a 1), f_net a)] H := hP
    have hD : va_D (va_A [((a 4), f_words a), ((a 47), .inl (g 0, 256, .inl (fun _ => 0))), ((a 1), f_net a), ((a 2), f_book a)] s.heap.size) [((a 2), f_book a), ((a 47), .inl (g 0, 256, .inl (fun _ => 0))), ((a 4), .inr (16, [.ref (a 1), .ref (a 2), .ref (a 38), .ref (a 39), .ref (a 40), .ref (a 41), .ref (a 42), .ref (a 43), .ref (a 44), .ref (a 45), .ref (a 46), .ref (a 47), .long 1, .long 0, .long 0, .int 0, .int (-1)])), ((a 1), f_net a)] := hD
    refine lv_iconst (v := 0) hx hb dX10_countAllWays_27 (by decide) ?_
    refine lv_istore_n (lv' := [(2, .int 0), (1, .int 0), (0, .ref (a 4))]) hx hb dX10_countAllWays_28 rfl hl (by decide) rfl (fun ls hl => ?_)
    refine lv_iload_n hx hb dX10_countAllWays_29 rfl (lv_at hl 0 rfl) ?_
    refine lv_aload_n hx hb dX10_countAllWays_30 rfl (lv_at hl 2 rfl) ?_
    refine va_get (D := D) (ci := 16) (v := .ref (a 2)) (C := RX10) (T := TX10) (N := 17) hx hb ht in_X10 hown hK.1 hP 2 rfl rfl 1 (by decide) (ht _ w_170) (fun _ h9 => h9) rfl dX10_countAllWays_31 ?_
    refine va_get (D := D) (ci := 9) (v := .int 0) (C := RX3) (T := TX3) (N := 14) hx hb ht in_X3 hown hK.1 hP 0 rfl rfl 11 (by decide) (ht _ w_205) (fun _ h9 => h9) rfl dX10_countAllWays_34 ?_
    refine lv_icmp_ge (tgt := 74) hx hb dX10_countAllWays_37 (by decide) (fun c_2 => ?_) (fun c_2 => ?_)
    · refine lv_iinc (v := 1) (lv' := [(1, .int 1), (2, .int 0), (0, .ref (a 4))]) hx hb dX10_countAllWays_74 hl (k := 1) rfl (by decide) (by decide) rfl (fun ls hl => ?_)
      refine lv_goto (tgt := 10) hx hb dX10_countAllWays_77 (by decide) ?_
      refine lv_iload_n hx hb dX10_countAllWays_10 rfl (lv_at hl 0 rfl) ?_
      refine lv_aload_n hx hb dX10_countAllWays_11 rfl (lv_at hl 2 rfl) ?_
      have hPc : va_P D vwCl [((a 4), .inr (16, [.ref (a 1), .ref (a 2), .ref (a 38), .ref (a 39), .ref (a 40), .ref (a 41), .ref (a 42), .ref (a 43), .ref (a 44), .ref (a 45), .ref (a 46), .ref (a 47), .long 1, .long 0, .long 0, .int 0, .int (-1)])), ((a 1), f_net a)] _ := hP.sub (ws' := [((a 4), .inr (16, [.ref (a 1), .ref (a 2), .ref (a 38), .ref (a 39), .ref (a 40), .ref (a 41), .ref (a 42), .ref (a 43), .ref (a 44), .ref (a 45), .ref (a 46), .ref (a 47), .long 1, .long 0, .long 0, .int 0, .int (-1)])), ((a 1), f_net a)]) [2, 3] rfl
      have hDc : va_D (fun q => z0 ≤ q) [((a 4), .inr (16, [.ref (a 1), .ref (a 2), .ref (a 38), .ref (a 39), .ref (a 40), .ref (a 41), .ref (a 42), .ref (a 43), .ref (a 44), .ref (a 45), .ref (a 46), .ref (a 47), .long 1, .long 0, .long 0, .int 0, .int (-1)])), ((a 1), f_net a)] := (hD.to hAz).pick (ws' := [((a 4), .inr (16, [.ref (a 1), .ref (a 2), .ref (a 38), .ref (a 39), .ref (a 40), .ref (a 41), .ref (a 42), .ref (a 43), .ref (a 44), .ref (a 45), .ref (a 46), .ref (a 47), .long 1, .long 0, .long 0, .int 0, .int (-1)])), ((a 1), f_net a)]) [2, 3] (by decide) rfl
      have hFc := AnA (ws := [((a 4), f_words a), ((a 47), .inl (g 0, 256, .inl (fun _ => 0))), ((a 1), f_net a), ((a 2), f_book a)]) hS.1
      refine va_calli (va_runV (As := []) (rest := [.int 1]) ⟨hx, hb, hml, hown, ht⟩ (k_X10_wordsOfWays_v1 l D g z0 _ a) (cwV 0 ht (gV w_197 w_199 w_200 w_14 w_198) rfl rfl rfl (by decide +kernel) (le2 rfl rfl)) ⟨PP.blind, va_recv hK.1 hP (ci := 16) (q0 := 2) rfl rfl, PP.mk' hK hZ hz hAz hS hPc hDc⟩ rfl rfl hl.1 rfl (lv_room (Nat.le_of_ble_eq_true rfl)) dX10_countAllWays_12 (le2 rfl rfl)) hS (fun q _ h => hFc q h) hFc (fun r u t H locs ht1 hvm hw hB hz1 hk1 hS => ?_)
      obtain ⟨rfl, hw⟩ := hw
      have hP := ro1 hP hk1
      refine lv_icmp_ge (tgt := 80) hx hb dX10_countAllWays_15 (by decide) (fun c_3 => ?_) (fun c_3 => ?_)
      · have hP9 := hP.sub (ws' := [((a 2), f_book a), ((a 47), .inl (g 0, 256, .inl (fun _ => 0))), ((a 4), .inr (16, [.ref (a 1), .ref (a 2), .ref (a 38), .ref (a 39), .ref (a 40), .ref (a 41), .ref (a 42), .ref (a 43), .ref (a 44), .ref (a 45), .ref (a 46), .ref (a 47), .long 1, .long 0, .long 0, .int 0, .int (-1)])), ((a 1), f_net a)]) [0, 1, 2, 3] rfl
        have hD9 := hD.sub (ws' := [((a 2), f_book a), ((a 47), .inl (g 0, 256, .inl (fun _ => 0))), ((a 4), .inr (16, [.ref (a 1), .ref (a 2), .ref (a 38), .ref (a 39), .ref (a 40), .ref (a 41), .ref (a 42), .ref (a 43), .ref (a 44), .ref (a 45), .ref (a 46), .ref (a 47), .long 1, .long 0, .long 0, .int 0, .int (-1)])), ((a 1), f_net a)]) [0, 1, 2, 3] (by decide) rfl
        refine W.widen (k := 0) (n := 0) (Nat.le_of_ble_eq_true rfl) (Nat.le_of_ble_eq_true rfl) ?_
        exact W.vret hx hb hr (fun t ht9 hW9 => ⟨⟨(), rfl, trivial, ⟨(by rw [ht9]; exact hP9), hD9⟩⟩, hS.F ht9⟩) hS.2.2 dX10_countAllWays_80 hlocks
      · exact absurd c_3 (by decide)
    · exact absurd c_2 (by decide)
set_option maxHeartbeats 4000000 in
set_option maxRecDepth 100000 in
theorem k_X11_hardest (l : Launch) (hfl : l.stackTraces = false) (D : va_G) (g : Nat → ClassId) (z0 sz : Nat) (a : Nat → Nat) : vx_Met l yX11_hardest (.code yX11_hardest cX11_hardest 4 (some .int) :: TG) (rmk 6 1 6 81) (va_Pc [.ref (a 0)] (PP D g z0 sz [((a 0), f_x a), ((a 4), f_words a), ((a 47), .inl (g 0, 256, .inl (fun _ => 0))), ((a 1), f_net a), ((a 2), f_book a)])) (va_Qi (fun (r : Int32) (u : Unit) => False) (fun (_ : Unit) (_ : State) => True) (va_A [((a 0), f_x a), ((a 4), f_words a), ((a 47), .inl (g 0, 256, .inl (fun _ => 0))), ((a 1), f_net a), ((a 2), f_book a)] sz)) (vx_X (fun _ : Unit => True) (fun E _ _ => (E = "java/util/NoSuchElementException" ∧ True)) (va_A [((a 0), f_x a), ((a 4), f_words a), ((a 47), .inl (g 0, 256, .inl (fun _ => 0))), ((a 1), f_net a), ((a 2), f_book a)] sz)) 1 6 (va_A [((a 0), f_x a), ((a 4), f_words a), ((a 47), .inl (g 0, 256, .inl (fun _ => 0))), ((a 1), f_net a), ((a 2), f_book a)] sz) := by
  refine vxm0 (cc := cX11_hardest) (n := 4) (by decide) (Nat.le_of_ble_eq_true rfl) ?_
  intro p e s m args below meth c hx hb hr hml htab hown ht hlocks hnm hP0 hD0 hK hZ hsz hz ls hl
  subst hsz
  have hA : ∀ q : Nat, s.heap.size ≤ q → va_A [((a 0), f_x a), ((a 4), f_words a), ((a 47), .inl (g 0, 256, .inl (fun _ => 0))), ((a 1), f_net a), ((a 2), f_book a)] s.heap.size q := Anw
  have hAz : ∀ q, va_A [((a 0), f_x a), ((a 4), f_words a), ((a 47), .inl (g 0, 256, .inl (fun _ => 0))), ((a 1), f_net a), ((a 2), f_book a)] s.heap.size q → z0 ≤ q := Awz hz hD0
  have hS : va_S (va_A [((a 0), f_x a), ((a 4), f_words a), ((a 47), .inl (g 0, 256, .inl (fun _ => 0))), ((a 1), f_net a), ((a 2), f_book a)] s.heap.size) s.heap s.heap [] := va_S.rf
  have hD : va_D (va_A [((a 0), f_x a), ((a 4), f_words a), ((a 47), .inl (g 0, 256, .inl (fun _ => 0))), ((a 1), f_net a), ((a 2), f_book a)] s.heap.size) [((a 0), f_x a), ((a 4), f_words a), ((a 47), .inl (g 0, 256, .inl (fun _ => 0))), ((a 1), f_net a), ((a 2), f_book a)] := hD0.self
  have hP : va_P D vwCl [((a 0), f_x a), ((a 4), f_words a), ((a 47), .inl (g 0, 256, .inl (fun _ => 0))), ((a 1), f_net a), ((a 2), f_book a)] s.heap := hP0
  have hl : lv_has ls 4 [(0, .ref (a 0))] := hl
  refine lv_aload_n hx hb dX11_hardest_0 rfl (lv_at hl 0 rfl) ?_
  refine va_get (D := D) (ci := 17) (v := .ref (a 4)) (C := RX11) (T := TX11) (N := 11) hx hb ht in_X11 hown hK.1 hP 0 rfl rfl 3 (by decide) (ht _ w_0) (fun _ h9 => h9) rfl dX11_hardest_1 ?_
  have hPc : va_P D vwCl [((a 4), f_words a), ((a 47), .inl (g 0, 256, .inl (fun _ => 0))), ((a 1), f_net a), ((a 2), f_book a)] _ := hP.sub (ws' := [((a 4), f_words a), ((a 47), .inl (g 0, 256, .inl (fun _ => 0))), ((a 1), f_net a), ((a 2), f_book a)]) [1, 2, 3, 4] rfl
  have hDc : va_D (fun q => z0 ≤ q) [((a 4), f_words a), ((a 47), .inl (g 0, 256, .inl (fun _ => 0))), ((a 1), f_net a), ((a 2), f_book a)] := (hD.to hAz).pick (ws' := [((a 4), f_words a), ((a 47), .inl (g 0, 256, .inl (fun _ => 0))), ((a 1), f_net a), ((a 2), f_book a)]) [1, 2, 3, 4] (by decide) rfl
  have hFc := va_free (wc := [((a 4), f_words a), ((a 47), .inl (g 0, 256, .inl (fun _ => 0))), ((a 1), f_net a), ((a 2), f_book a)]) hD hS hA [1, 2, 3, 4] rfl
  refine va_callv (va_runV (As := []) (rest := []) ⟨hx, hb, hml, hown, ht⟩ (k_X10_countAllWays l D g z0 _ a) (cwV 0 ht (gV w_206 w_208 w_209 w_14 w_207) rfl rfl rfl (by decide +kernel) (le2 rfl rfl)) ⟨PP.blind, va_recv hK.1 hP (ci := 16) (q0 := 1) rfl rfl, PP.mk' hK hZ hz hAz hS hPc hDc⟩ rfl rfl hl.1 rfl (lv_room (Nat.le_of_ble_eq_true rfl)) dX11_hardest_4 (le2 rfl rfl)) hS (fun q _ h => hFc q h) hFc (fun u t H locs ht1 hvm hw hB hz1 hk1 hS => ?_)
  obtain ⟨hP1, hD1⟩ := hB
  rw [ht1] at hP1
  obtain ⟨hP, hD⟩ := va_join (wr := [((a 0), f_x a)]) (w1 := [((a 2), f_book a), ((a 47), .inl (g 0, 256, .inl (fun _ => 0))), ((a 4), .inr (16, [.ref (a 1), .ref (a 2), .ref (a 38), .ref (a 39), .ref (a 40), .ref (a 41), .ref (a 42), .ref (a 43), .ref (a 44), .ref (a 45), .ref (a 46), .ref (a 47), .long 1, .long 0, .long 0, .int 0, .int (-1)])), ((a 1), f_net a)]) hP hD [1, 2, 3, 4] [0] rfl rfl (by decide) (by decide) hk1 hFc hP1 hD1
  have hP : va_P D vwCl [((a 0), f_x a), ((a 2), f_book a), ((a 47), .inl (g 0, 256, .inl (fun _ => 0))), ((a 4), .inr (16, [.ref (a 1), .ref (a 2), .ref (a 38), .ref (a 39), .ref (a 40), .ref (a 41), .ref (a 42), .ref (a 43), .ref (a 44), .ref (a 45), .ref (a 46), .ref (a 47), .long 1, .long 0, .long 0, .int 0, .int (-1)])), ((a 1), f_net a)] H := hP
  have hD : va_D (va_A [((a 0), f_x a), ((a 4), f_words a), ((a 47), .inl (g 0, 256, .inl (fun _ => 0))), ((a 1), f_net a), ((a 2), f_book a)] s.heap.size) [((a 0), f_x a), ((a 2), f_book a), ((a 47), .inl (g 0, 256, .inl (fun _ => 0))), ((a 4), .inr (16, [.ref (a 1), .ref (a 2), .ref (a 38), .ref (a 39), .ref (a 40), .ref (a 41), .ref (a 42), .ref (a 43), .ref (a 44), .ref (a 45), .ref (a 46), .ref (a 47), .long 1, .long 0, .long 0, .int 0, .int (-1)])), ((a 1), f_net a)] := hD
  refine lv_iconst (v := (-1)) hx hb dX11_hardest_7 (by decide) ?_
  refine lv_istore_n (lv' := [(1, .int (-1)), (0, .ref (a 0))]) hx hb dX11_hardest_8 rfl hl (by decide) rfl (fun ls hl => ?_)
  refine lv_iconst (v := 0) hx hb dX11_hardest_9 (by decide) ?_
  refine lv_istore_n (lv' := [(2, .int 0), (1, .int (-1)), (0, .ref (a 0))]) hx hb dX11_hardest_10 rfl hl (by decide) rfl (fun ls hl => ?_)
  refine lv_iload_n hx hb dX11_hardest_11 rfl (lv_at hl 0 rfl) ?_
  refine lv_aload_n hx hb dX11_hardest_12 rfl (lv_at hl 2 rfl) ?_
  refine va_get (D := D) (ci := 17) (v := .ref (a 2)) (C := RX11) (T := TX11) (N := 11) hx hb ht in_X11 hown hK.1 hP 0 rfl rfl 1 (by decide) (ht _ w_32) (fun _ h9 => h9) rfl dX11_hardest_13 ?_
  refine va_get (D := D) (ci := 9) (v := .int 0) (C := RX3) (T := TX3) (N := 14) hx hb ht in_X3 hown hK.1 hP 1 rfl rfl 11 (by decide) (ht _ w_33) (fun _ h9 => h9) rfl dX11_hardest_16 ?_
  refine lv_icmp_ge (tgt := 88) hx hb dX11_hardest_19 (by decide) (fun c_1 => ?_) (fun c_1 => ?_)
  · refine lv_iload_n hx hb dX11_hardest_88 rfl (lv_at hl 1 rfl) ?_
    refine lv_if_ge (tgt := 100) hx hb dX11_hardest_89 (by decide) (fun c_2 => ?_) (fun c_2 => ?_)
    · exact absurd c_2 (by decide)
    · exact thr0 hx hb hfl hown ht hK.2.2 hZ hAz hS hl hml htab hlocks (by decide +kernel) w_117 w_118 at_X11_312 dX11_hardest_92 dX11_hardest_95 dX11_hardest_96 dX11_hardest_99 rfl rfl rfl rfl (fun t _ hF => ⟨(), trivial, ⟨rfl, trivial⟩, hF⟩) (fun _ h => h) rfl rfl
  · exact absurd c_1 (by decide)
