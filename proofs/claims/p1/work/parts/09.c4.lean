theorem w_1113 : Cond.methodLink RL 388 yL_orderAt ∈ TG := tg (sg_8 _ (List.mem_of_getElem? (i := 48) (by decide +kernel))) (by decide +kernel)
theorem w_1114 : Cond.codeWith yL_orderAt cL_orderAt 4 (some .int) [(0, 9, 12, 86)] ∈ TG := tg (sg_8 _ (List.mem_of_getElem? (i := 50) (by decide +kernel))) (by decide +kernel)
theorem w_1115 : Cond.static yL_orderAt ∈ TG := tg (sg_8 _ (List.mem_of_getElem? (i := 49) (by decide +kernel))) (by decide +kernel)
theorem w_1116 : Cond.methodLink RL 390 yX15_orderAt ∈ TG := tg (sg_14 _ (List.mem_of_getElem? (i := 31) (by decide +kernel))) (by decide +kernel)
theorem w_1117 : Cond.code yX15_orderAt cX15_orderAt 2 (some .int) ∈ TG := tg (sg_14 _ (List.mem_of_getElem? (i := 34) (by decide +kernel))) (by decide +kernel)
theorem w_1118 : Cond.instanceMethod yX15_orderAt ∈ TG := tg (sg_14 _ (List.mem_of_getElem? (i := 32) (by decide +kernel))) (by decide +kernel)
theorem w_1119 : Cond.selects RX15 yX15_orderAt yX15_orderAt ∈ TG := tg (sg_14 _ (List.mem_of_getElem? (i := 33) (by decide +kernel))) (by decide +kernel)
theorem w_1120 : Cond.methodLink RL 391 yL_escapes ∈ TG := tg (sg_8 _ (List.mem_of_getElem? (i := 64) (by decide +kernel))) (by decide +kernel)
theorem w_1121 : Cond.codeWith yL_escapes cL_escapes 4 (some .int) [(0, 9, 12, 24)] ∈ TG := tg (sg_8 _ (List.mem_of_getElem? (i := 66) (by decide +kernel))) (by decide +kernel)
theorem w_1122 : Cond.static yL_escapes ∈ TG := tg (sg_8 _ (List.mem_of_getElem? (i := 65) (by decide +kernel))) (by decide +kernel)
theorem w_1123 : Cond.methodLink RL 393 yX15_escapes ∈ TG := tg (sg_14 _ (List.mem_of_getElem? (i := 39) (by decide +kernel))) (by decide +kernel)
theorem w_1124 : Cond.code yX15_escapes cX15_escapes 9 (some .int) ∈ TG := tg (sg_14 _ (List.mem_of_getElem? (i := 42) (by decide +kernel))) (by decide +kernel)
theorem w_1125 : Cond.instanceMethod yX15_escapes ∈ TG := tg (sg_14 _ (List.mem_of_getElem? (i := 40) (by decide +kernel))) (by decide +kernel)
theorem w_1126 : Cond.selects RX15 yX15_escapes yX15_escapes ∈ TG := tg (sg_14 _ (List.mem_of_getElem? (i := 41) (by decide +kernel))) (by decide +kernel)
theorem w_1127 : Cond.methodLink RL 398 yX11_eraseMarch ∈ TG := tg (sg_4 _ (List.mem_of_getElem? (i := 81) (by decide +kernel))) (by decide +kernel)
theorem w_1128 : Cond.code yX11_eraseMarch cX11_eraseMarch 2 (some .int) ∈ TG := tg (sg_4 _ (List.mem_of_getElem? (i := 84) (by decide +kernel))) (by decide +kernel)
theorem w_1129 : Cond.instanceMethod yX11_eraseMarch ∈ TG := tg (sg_4 _ (List.mem_of_getElem? (i := 82) (by decide +kernel))) (by decide +kernel)
theorem w_1130 : Cond.selects RX11 yX11_eraseMarch yX11_eraseMarch ∈ TG := tg (sg_4 _ (List.mem_of_getElem? (i := 83) (by decide +kernel))) (by decide +kernel)
theorem w_1131 : Cond.methodLink RL 401 yX15_eraseMarch ∈ TG := tg (sg_14 _ (List.mem_of_getElem? (i := 73) (by decide +kernel))) (by decide +kernel)
theorem w_1132 : Cond.code yX15_eraseMarch cX15_eraseMarch 2 (some .int) ∈ TG := tg (sg_14 _ (List.mem_of_getElem? (i := 76) (by decide +kernel))) (by decide +kernel)
theorem w_1133 : Cond.instanceMethod yX15_eraseMarch ∈ TG := tg (sg_14 _ (List.mem_of_getElem? (i := 74) (by decide +kernel))) (by decide +kernel)
theorem w_1134 : Cond.selects RX15 yX15_eraseMarch yX15_eraseMarch ∈ TG := tg (sg_14 _ (List.mem_of_getElem? (i := 75) (by decide +kernel))) (by decide +kernel)
theorem w_1135 : Cond.methodLink RL 402 yX11_isRight ∈ TG := tg (sg_4 _ (List.mem_of_getElem? (i := 85) (by decide +kernel))) (by decide +kernel)
theorem w_1136 : Cond.code yX11_isRight cX11_isRight 1 (some .boolean) ∈ TG := tg (sg_4 _ (List.mem_of_getElem? (i := 88) (by decide +kernel))) (by decide +kernel)
theorem w_1137 : Cond.instanceMethod yX11_isRight ∈ TG := tg (sg_4 _ (List.mem_of_getElem? (i := 86) (by decide +kernel))) (by decide +kernel)
theorem w_1138 : Cond.selects RX11 yX11_isRight yX11_isRight ∈ TG := tg (sg_4 _ (List.mem_of_getElem? (i := 87) (by decide +kernel))) (by decide +kernel)
theorem w_1139 : Cond.methodLink RL 406 yX15_isRight ∈ TG := tg (sg_14 _ (List.mem_of_getElem? (i := 77) (by decide +kernel))) (by decide +kernel)
theorem w_1140 : Cond.code yX15_isRight cX15_isRight 1 (some .boolean) ∈ TG := tg (sg_14 _ (List.mem_of_getElem? (i := 80) (by decide +kernel))) (by decide +kernel)
theorem w_1141 : Cond.instanceMethod yX15_isRight ∈ TG := tg (sg_14 _ (List.mem_of_getElem? (i := 78) (by decide +kernel))) (by decide +kernel)
theorem w_1142 : Cond.selects RX15 yX15_isRight yX15_isRight ∈ TG := tg (sg_14 _ (List.mem_of_getElem? (i := 79) (by decide +kernel))) (by decide +kernel)
theorem w_1143 : Cond.methodLink RL 411 yL_marchCount ∈ TG := tg (sg_8 _ (List.mem_of_getElem? (i := 105) (by decide +kernel))) (by decide +kernel)
theorem w_1144 : Cond.codeWith yL_marchCount cL_marchCount 4 (some .int) [(0, 9, 12, 24), (0, 9, 15, 13)] ∈ TG := tg (sg_8 _ (List.mem_of_getElem? (i := 107) (by decide +kernel))) (by decide +kernel)
theorem w_1145 : Cond.static yL_marchCount ∈ TG := tg (sg_8 _ (List.mem_of_getElem? (i := 106) (by decide +kernel))) (by decide +kernel)
theorem w_1146 : Cond.methodLink RL 413 yX15_marchCount ∈ TG := tg (sg_14 _ (List.mem_of_getElem? (i := 116) (by decide +kernel))) (by decide +kernel)
theorem w_1147 : Cond.code yX15_marchCount cX15_marchCount 10 (some .int) ∈ TG := tg (sg_14 _ (List.mem_of_getElem? (i := 119) (by decide +kernel))) (by decide +kernel)
theorem w_1148 : Cond.instanceMethod yX15_marchCount ∈ TG := tg (sg_14 _ (List.mem_of_getElem? (i := 117) (by decide +kernel))) (by decide +kernel)
theorem w_1149 : Cond.selects RX15 yX15_marchCount yX15_marchCount ∈ TG := tg (sg_14 _ (List.mem_of_getElem? (i := 118) (by decide +kernel))) (by decide +kernel)
theorem w_1150 : Cond.methodLink RL 421 yL_board ∈ TG := tg (sg_8 _ (List.mem_of_getElem? (i := 146) (by decide +kernel))) (by decide +kernel)
theorem w_1151 : Cond.codeWith yL_board cL_board 5 (some .int) [(0, 10, 13, 24)] ∈ TG := tg (sg_8 _ (List.mem_of_getElem? (i := 148) (by decide +kernel))) (by decide +kernel)
theorem w_1152 : Cond.static yL_board ∈ TG := tg (sg_8 _ (List.mem_of_getElem? (i := 147) (by decide +kernel))) (by decide +kernel)
theorem w_1153 : Cond.methodLink RL 423 yX15_board ∈ TG := tg (sg_14 _ (List.mem_of_getElem? (i := 132) (by decide +kernel))) (by decide +kernel)
theorem w_1154 : Cond.code yX15_board cX15_board 8 (some .int) ∈ TG := tg (sg_14 _ (List.mem_of_getElem? (i := 135) (by decide +kernel))) (by decide +kernel)
theorem w_1155 : Cond.instanceMethod yX15_board ∈ TG := tg (sg_14 _ (List.mem_of_getElem? (i := 133) (by decide +kernel))) (by decide +kernel)
theorem w_1156 : Cond.selects RX15 yX15_board yX15_board ∈ TG := tg (sg_14 _ (List.mem_of_getElem? (i := 134) (by decide +kernel))) (by decide +kernel)
theorem w_1157 : Cond.methodLink RL 424 yL_openWire ∈ TG := tg (sg_8 _ (List.mem_of_getElem? (i := 158) (by decide +kernel))) (by decide +kernel)
theorem w_1158 : Cond.codeWith yL_openWire cL_openWire 5 (some .int) [(0, 17, 20, 26), (0, 17, 24, 24)] ∈ TG := tg (sg_8 _ (List.mem_of_getElem? (i := 160) (by decide +kernel))) (by decide +kernel)
theorem w_1159 : Cond.static yL_openWire ∈ TG := tg (sg_8 _ (List.mem_of_getElem? (i := 159) (by decide +kernel))) (by decide +kernel)
theorem w_1160 : Cond.methodLink RL 426 yX15_openWire ∈ TG := tg (sg_14 _ (List.mem_of_getElem? (i := 139) (by decide +kernel))) (by decide +kernel)
theorem w_1161 : Cond.code yX15_openWire cX15_openWire 4 (some .boolean) ∈ TG := tg (sg_14 _ (List.mem_of_getElem? (i := 142) (by decide +kernel))) (by decide +kernel)
theorem w_1162 : Cond.instanceMethod yX15_openWire ∈ TG := tg (sg_14 _ (List.mem_of_getElem? (i := 140) (by decide +kernel))) (by decide +kernel)
theorem w_1163 : Cond.selects RX15 yX15_openWire yX15_openWire ∈ TG := tg (sg_14 _ (List.mem_of_getElem? (i := 141) (by decide +kernel))) (by decide +kernel)
theorem w_1164 : Cond.methodLink RL 427 yL_shortWires ∈ TG := tg (sg_8 _ (List.mem_of_getElem? (i := 173) (by decide +kernel))) (by decide +kernel)
theorem w_1165 : Cond.codeWith yL_shortWires cL_shortWires 5 (some .int) [(0, 10, 13, 26), (0, 10, 17, 24)] ∈ TG := tg (sg_8 _ (List.mem_of_getElem? (i := 175) (by decide +kernel))) (by decide +kernel)
theorem w_1166 : Cond.static yL_shortWires ∈ TG := tg (sg_8 _ (List.mem_of_getElem? (i := 174) (by decide +kernel))) (by decide +kernel)
theorem w_1167 : Cond.methodLink RL 429 yX15_shortWires ∈ TG := tg (sg_14 _ (List.mem_of_getElem? (i := 147) (by decide +kernel))) (by decide +kernel)
theorem w_1168 : Cond.code yX15_shortWires cX15_shortWires 3 (some .int) ∈ TG := tg (sg_14 _ (List.mem_of_getElem? (i := 150) (by decide +kernel))) (by decide +kernel)
theorem w_1169 : Cond.instanceMethod yX15_shortWires ∈ TG := tg (sg_14 _ (List.mem_of_getElem? (i := 148) (by decide +kernel))) (by decide +kernel)
theorem w_1170 : Cond.selects RX15 yX15_shortWires yX15_shortWires ∈ TG := tg (sg_14 _ (List.mem_of_getElem? (i := 149) (by decide +kernel))) (by decide +kernel)
theorem w_1171 : Cond.methodLink RL 430 yL_got ∈ TG := tg (sg_8 _ (List.mem_of_getElem? (i := 189) (by decide +kernel))) (by decide +kernel)
theorem w_1172 : Cond.codeWith yL_got cL_got 5 (some .int) [(0, 10, 13, 26), (0, 10, 17, 24)] ∈ TG := tg (sg_8 _ (List.mem_of_getElem? (i := 191) (by decide +kernel))) (by decide +kernel)
theorem w_1173 : Cond.static yL_got ∈ TG := tg (sg_8 _ (List.mem_of_getElem? (i := 190) (by decide +kernel))) (by decide +kernel)
theorem w_1174 : Cond.methodLink RL 432 yX15_got ∈ TG := tg (sg_14 _ (List.mem_of_getElem? (i := 155) (by decide +kernel))) (by decide +kernel)
theorem w_1175 : Cond.code yX15_got cX15_got 3 (some .int) ∈ TG := tg (sg_14 _ (List.mem_of_getElem? (i := 158) (by decide +kernel))) (by decide +kernel)
theorem w_1176 : Cond.instanceMethod yX15_got ∈ TG := tg (sg_14 _ (List.mem_of_getElem? (i := 156) (by decide +kernel))) (by decide +kernel)
theorem w_1177 : Cond.selects RX15 yX15_got yX15_got ∈ TG := tg (sg_14 _ (List.mem_of_getElem? (i := 157) (by decide +kernel))) (by decide +kernel)
theorem w_1178 : Cond.methodLink RL 433 yL_badWires ∈ TG := tg (sg_8 _ (List.mem_of_getElem? (i := 224) (by decide +kernel))) (by decide +kernel)
theorem w_1179 : Cond.codeWith yL_badWires cL_badWires 4 (some .int) [(0, 9, 12, 24)] ∈ TG := tg (sg_8 _ (List.mem_of_getElem? (i := 226) (by decide +kernel))) (by decide +kernel)
theorem w_1180 : Cond.static yL_badWires ∈ TG := tg (sg_8 _ (List.mem_of_getElem? (i := 225) (by decide +kernel))) (by decide +kernel)
theorem w_1181 : Cond.methodLink RL 435 yX15_badWires ∈ TG := tg (sg_14 _ (List.mem_of_getElem? (i := 176) (by decide +kernel))) (by decide +kernel)
theorem w_1182 : Cond.code yX15_badWires cX15_badWires 4 (some .int) ∈ TG := tg (sg_14 _ (List.mem_of_getElem? (i := 179) (by decide +kernel))) (by decide +kernel)
theorem w_1183 : Cond.instanceMethod yX15_badWires ∈ TG := tg (sg_14 _ (List.mem_of_getElem? (i := 177) (by decide +kernel))) (by decide +kernel)
theorem w_1184 : Cond.selects RX15 yX15_badWires yX15_badWires ∈ TG := tg (sg_14 _ (List.mem_of_getElem? (i := 178) (by decide +kernel))) (by decide +kernel)
theorem w_1185 : Cond.methodLink RL 436 yL_sameAs ∈ TG := tg (sg_8 _ (List.mem_of_getElem? (i := 232) (by decide +kernel))) (by decide +kernel)
theorem w_1186 : Cond.codeWith yL_sameAs cL_sameAs 5 (some .int) [(0, 10, 13, 26), (0, 10, 17, 24)] ∈ TG := tg (sg_8 _ (List.mem_of_getElem? (i := 234) (by decide +kernel))) (by decide +kernel)
theorem w_1187 : Cond.static yL_sameAs ∈ TG := tg (sg_8 _ (List.mem_of_getElem? (i := 233) (by decide +kernel))) (by decide +kernel)
theorem w_1188 : Cond.methodLink RL 438 yX15_sameAs ∈ TG := tg (sg_14 _ (List.mem_of_getElem? (i := 180) (by decide +kernel))) (by decide +kernel)
theorem w_1189 : Cond.code yX15_sameAs cX15_sameAs 5 (some .int) ∈ TG := tg (sg_14 _ (List.mem_of_getElem? (i := 183) (by decide +kernel))) (by decide +kernel)
theorem w_1190 : Cond.instanceMethod yX15_sameAs ∈ TG := tg (sg_14 _ (List.mem_of_getElem? (i := 181) (by decide +kernel))) (by decide +kernel)
theorem w_1191 : Cond.selects RX15 yX15_sameAs yX15_sameAs ∈ TG := tg (sg_14 _ (List.mem_of_getElem? (i := 182) (by decide +kernel))) (by decide +kernel)
theorem w_1192 : Cond.methodLink RL 439 yL_core ∈ TG := tg (sg_8 _ (List.mem_of_getElem? (i := 239) (by decide +kernel))) (by decide +kernel)
theorem w_1193 : Cond.codeWith yL_core cL_core 6 (some .int) [(0, 12, 15, 24), (0, 12, 19, 15)] ∈ TG := tg (sg_9 _ (List.mem_of_getElem? (i := 1) (by decide +kernel))) (by decide +kernel)
theorem w_1194 : Cond.static yL_core ∈ TG := tg (sg_9 _ (List.mem_of_getElem? (i := 0) (by decide +kernel))) (by decide +kernel)
theorem w_1195 : Cond.methodLink RL 441 yX15_core ∈ TG := tg (sg_14 _ (List.mem_of_getElem? (i := 184) (by decide +kernel))) (by decide +kernel)
theorem w_1196 : Cond.code yX15_core cX15_core 4 (some .int) ∈ TG := tg (sg_14 _ (List.mem_of_getElem? (i := 187) (by decide +kernel))) (by decide +kernel)
theorem w_1197 : Cond.instanceMethod yX15_core ∈ TG := tg (sg_14 _ (List.mem_of_getElem? (i := 185) (by decide +kernel))) (by decide +kernel)
theorem w_1198 : Cond.selects RX15 yX15_core yX15_core ∈ TG := tg (sg_14 _ (List.mem_of_getElem? (i := 186) (by decide +kernel))) (by decide +kernel)
theorem dL_law_3016 : decode cL_law 3016 = .ok (.aload_n 1, 1) := by decide +kernel
theorem dL_law_3017 : decode cL_law 3017 = .ok (.aload_n 0, 1) := by decide +kernel
theorem dL_law_3018 : decode cL_law 3018 = .ok (.iload 5, 2) := by decide +kernel
theorem dL_law_3020 : decode cL_law 3020 = .ok (.iconst 1, 1) := by decide +kernel
theorem dL_law_3021 : decode cL_law 3021 = .ok (.iadd, 1) := by decide +kernel
theorem dL_law_3022 : decode cL_law 3022 = .ok (.iaload, 1) := by decide +kernel
theorem dL_law_3023 : decode cL_law 3023 = .ok (.aload_n 3, 1) := by decide +kernel
theorem dL_law_3024 : decode cL_law 3024 = .ok (.invokestatic 388, 3) := by decide +kernel
theorem dL_law_3027 : decode cL_law 3027 = .ok (.istore 6, 2) := by decide +kernel
theorem dL_law_3029 : decode cL_law 3029 = .ok (.aload_n 2, 1) := by decide +kernel
theorem dL_law_3030 : decode cL_law 3030 = .ok (.aload_n 0, 1) := by decide +kernel
theorem dL_law_3031 : decode cL_law 3031 = .ok (.iload 5, 2) := by decide +kernel
theorem dL_law_3033 : decode cL_law 3033 = .ok (.iconst 1, 1) := by decide +kernel
theorem dL_law_3034 : decode cL_law 3034 = .ok (.iadd, 1) := by decide +kernel
theorem dL_law_3035 : decode cL_law 3035 = .ok (.iaload, 1) := by decide +kernel
theorem dL_law_3036 : decode cL_law 3036 = .ok (.invokevirtual 390, 3) := by decide +kernel
theorem dL_law_3039 : decode cL_law 3039 = .ok (.istore 7, 2) := by decide +kernel
theorem dL_law_3041 : decode cL_law 3041 = .ok (.aload_n 2, 1) := by decide +kernel
theorem dL_law_3042 : decode cL_law 3042 = .ok (.invokevirtual 221, 3) := by decide +kernel
theorem dL_law_3045 : decode cL_law 3045 = .ok (.iload 6, 2) := by decide +kernel
theorem dL_law_3047 : decode cL_law 3047 = .ok (.if_icmp .eq 5, 3) := by decide +kernel
theorem dL_law_3052 : decode cL_law 3052 = .ok (.iload 6, 2) := by decide +kernel
theorem dL_law_3054 : decode cL_law 3054 = .ok (.ifCond .ne 15, 3) := by decide +kernel
theorem dL_law_3069 : decode cL_law 3069 = .ok (.goto 1195, 3) := by decide +kernel
theorem dL_law_3072 : decode cL_law 3072 = .ok (.aload_n 1, 1) := by decide +kernel
theorem dL_law_3073 : decode cL_law 3073 = .ok (.aload_n 0, 1) := by decide +kernel
theorem dL_law_3074 : decode cL_law 3074 = .ok (.iload 5, 2) := by decide +kernel
theorem dL_law_3076 : decode cL_law 3076 = .ok (.iconst 1, 1) := by decide +kernel
theorem dL_law_3077 : decode cL_law 3077 = .ok (.iadd, 1) := by decide +kernel
theorem dL_law_3078 : decode cL_law 3078 = .ok (.iaload, 1) := by decide +kernel
theorem dL_law_3079 : decode cL_law 3079 = .ok (.aload_n 3, 1) := by decide +kernel
theorem dL_law_3080 : decode cL_law 3080 = .ok (.invokestatic 391, 3) := by decide +kernel
theorem dL_law_3083 : decode cL_law 3083 = .ok (.istore 6, 2) := by decide +kernel
theorem dL_law_3085 : decode cL_law 3085 = .ok (.aload_n 2, 1) := by decide +kernel
theorem dL_law_3086 : decode cL_law 3086 = .ok (.aload_n 0, 1) := by decide +kernel
theorem dL_law_3087 : decode cL_law 3087 = .ok (.iload 5, 2) := by decide +kernel
theorem dL_law_3089 : decode cL_law 3089 = .ok (.iconst 1, 1) := by decide +kernel
theorem dL_law_3090 : decode cL_law 3090 = .ok (.iadd, 1) := by decide +kernel
theorem dL_law_3091 : decode cL_law 3091 = .ok (.iaload, 1) := by decide +kernel
theorem dL_law_3092 : decode cL_law 3092 = .ok (.invokevirtual 393, 3) := by decide +kernel
theorem dL_law_3095 : decode cL_law 3095 = .ok (.istore 7, 2) := by decide +kernel
theorem dL_law_3097 : decode cL_law 3097 = .ok (.aload_n 2, 1) := by decide +kernel
theorem dL_law_3098 : decode cL_law 3098 = .ok (.invokevirtual 221, 3) := by decide +kernel
theorem dL_law_3101 : decode cL_law 3101 = .ok (.iload 6, 2) := by decide +kernel
theorem dL_law_3103 : decode cL_law 3103 = .ok (.if_icmp .eq 5, 3) := by decide +kernel
theorem dL_law_3108 : decode cL_law 3108 = .ok (.iload 6, 2) := by decide +kernel
theorem dL_law_3110 : decode cL_law 3110 = .ok (.ifCond .ne 15, 3) := by decide +kernel
theorem dL_law_3113 : decode cL_law 3113 = .ok (.aload_n 3, 1) := by decide +kernel
theorem dL_law_3114 : decode cL_law 3114 = .ok (.iconst 0, 1) := by decide +kernel
theorem dL_law_3115 : decode cL_law 3115 = .ok (.laload, 1) := by decide +kernel
theorem dL_law_3116 : decode cL_law 3116 = .ok (.iload 7, 2) := by decide +kernel
theorem dL_law_3118 : decode cL_law 3118 = .ok (.i2l, 1) := by decide +kernel
theorem dL_law_3119 : decode cL_law 3119 = .ok (.lcmp, 1) := by decide +kernel
theorem dL_law_3120 : decode cL_law 3120 = .ok (.ifCond .eq 5, 3) := by decide +kernel
theorem dL_law_3125 : decode cL_law 3125 = .ok (.goto 1139, 3) := by decide +kernel
theorem dL_law_3186 : decode cL_law 3186 = .ok (.aload_n 1, 1) := by decide +kernel
theorem dL_law_3187 : decode cL_law 3187 = .ok (.invokevirtual 398, 3) := by decide +kernel
theorem dL_law_3190 : decode cL_law 3190 = .ok (.aload_n 2, 1) := by decide +kernel
theorem dL_law_3191 : decode cL_law 3191 = .ok (.invokevirtual 401, 3) := by decide +kernel
theorem dL_law_3194 : decode cL_law 3194 = .ok (.if_icmp .eq 1070, 3) := by decide +kernel
theorem dL_law_3199 : decode cL_law 3199 = .ok (.aload_n 1, 1) := by decide +kernel
theorem dL_law_3200 : decode cL_law 3200 = .ok (.invokevirtual 402, 3) := by decide +kernel
theorem dL_law_3203 : decode cL_law 3203 = .ok (.aload_n 2, 1) := by decide +kernel
theorem dL_law_3204 : decode cL_law 3204 = .ok (.invokevirtual 406, 3) := by decide +kernel
theorem dL_law_3207 : decode cL_law 3207 = .ok (.if_icmp .eq 1057, 3) := by decide +kernel
theorem dL_law_3325 : decode cL_law 3325 = .ok (.aload_n 1, 1) := by decide +kernel
theorem dL_law_3326 : decode cL_law 3326 = .ok (.aload_n 0, 1) := by decide +kernel
theorem dL_law_3327 : decode cL_law 3327 = .ok (.iload 5, 2) := by decide +kernel
theorem dL_law_3329 : decode cL_law 3329 = .ok (.iconst 1, 1) := by decide +kernel
theorem dL_law_3330 : decode cL_law 3330 = .ok (.iadd, 1) := by decide +kernel
theorem dL_law_3331 : decode cL_law 3331 = .ok (.iaload, 1) := by decide +kernel
theorem dL_law_3332 : decode cL_law 3332 = .ok (.i2c, 1) := by decide +kernel
theorem dL_law_3333 : decode cL_law 3333 = .ok (.aload_n 3, 1) := by decide +kernel
theorem dL_law_3334 : decode cL_law 3334 = .ok (.invokestatic 411, 3) := by decide +kernel
theorem dL_law_3337 : decode cL_law 3337 = .ok (.istore 6, 2) := by decide +kernel
theorem dL_law_3339 : decode cL_law 3339 = .ok (.aload_n 2, 1) := by decide +kernel
theorem dL_law_3340 : decode cL_law 3340 = .ok (.aload_n 0, 1) := by decide +kernel
theorem dL_law_3341 : decode cL_law 3341 = .ok (.iload 5, 2) := by decide +kernel
theorem dL_law_3343 : decode cL_law 3343 = .ok (.iconst 1, 1) := by decide +kernel
theorem dL_law_3344 : decode cL_law 3344 = .ok (.iadd, 1) := by decide +kernel
theorem dL_law_3345 : decode cL_law 3345 = .ok (.iaload, 1) := by decide +kernel
theorem dL_law_3346 : decode cL_law 3346 = .ok (.i2c, 1) := by decide +kernel
theorem dL_law_3347 : decode cL_law 3347 = .ok (.invokevirtual 413, 3) := by decide +kernel
theorem dL_law_3350 : decode cL_law 3350 = .ok (.istore 7, 2) := by decide +kernel
theorem dL_law_3352 : decode cL_law 3352 = .ok (.aload_n 2, 1) := by decide +kernel
theorem dL_law_3353 : decode cL_law 3353 = .ok (.invokevirtual 221, 3) := by decide +kernel
theorem dL_law_3356 : decode cL_law 3356 = .ok (.iload 6, 2) := by decide +kernel
theorem dL_law_3358 : decode cL_law 3358 = .ok (.if_icmp .eq 5, 3) := by decide +kernel
theorem dL_law_3363 : decode cL_law 3363 = .ok (.iload 6, 2) := by decide +kernel
theorem dL_law_3365 : decode cL_law 3365 = .ok (.ifCond .ne 15, 3) := by decide +kernel
theorem dL_law_3380 : decode cL_law 3380 = .ok (.goto 884, 3) := by decide +kernel
theorem dL_law_3547 : decode cL_law 3547 = .ok (.aload_n 1, 1) := by decide +kernel
theorem dL_law_3548 : decode cL_law 3548 = .ok (.aload_n 0, 1) := by decide +kernel
theorem dL_law_3549 : decode cL_law 3549 = .ok (.iload 5, 2) := by decide +kernel
theorem dL_law_3551 : decode cL_law 3551 = .ok (.iconst 1, 1) := by decide +kernel
theorem dL_law_3552 : decode cL_law 3552 = .ok (.iadd, 1) := by decide +kernel
theorem dL_law_3553 : decode cL_law 3553 = .ok (.iaload, 1) := by decide +kernel
theorem dL_law_3554 : decode cL_law 3554 = .ok (.aload_n 0, 1) := by decide +kernel
theorem dL_law_3555 : decode cL_law 3555 = .ok (.iload 5, 2) := by decide +kernel
theorem dL_law_3557 : decode cL_law 3557 = .ok (.iconst 2, 1) := by decide +kernel
theorem dL_law_3558 : decode cL_law 3558 = .ok (.iadd, 1) := by decide +kernel
theorem dL_law_3559 : decode cL_law 3559 = .ok (.iaload, 1) := by decide +kernel
theorem dL_law_3560 : decode cL_law 3560 = .ok (.i2c, 1) := by decide +kernel
theorem dL_law_3561 : decode cL_law 3561 = .ok (.aload_n 3, 1) := by decide +kernel
theorem dL_law_3562 : decode cL_law 3562 = .ok (.invokestatic 421, 3) := by decide +kernel
theorem dL_law_3565 : decode cL_law 3565 = .ok (.istore 6, 2) := by decide +kernel
theorem dL_law_3567 : decode cL_law 3567 = .ok (.aload_n 2, 1) := by decide +kernel
theorem dL_law_3568 : decode cL_law 3568 = .ok (.aload_n 0, 1) := by decide +kernel
theorem dL_law_3569 : decode cL_law 3569 = .ok (.iload 5, 2) := by decide +kernel
theorem dL_law_3571 : decode cL_law 3571 = .ok (.iconst 1, 1) := by decide +kernel
theorem dL_law_3572 : decode cL_law 3572 = .ok (.iadd, 1) := by decide +kernel
theorem dL_law_3573 : decode cL_law 3573 = .ok (.iaload, 1) := by decide +kernel
theorem dL_law_3574 : decode cL_law 3574 = .ok (.aload_n 0, 1) := by decide +kernel
theorem dL_law_3575 : decode cL_law 3575 = .ok (.iload 5, 2) := by decide +kernel
theorem dL_law_3577 : decode cL_law 3577 = .ok (.iconst 2, 1) := by decide +kernel
theorem dL_law_3578 : decode cL_law 3578 = .ok (.iadd, 1) := by decide +kernel
theorem dL_law_3579 : decode cL_law 3579 = .ok (.iaload, 1) := by decide +kernel
theorem dL_law_3580 : decode cL_law 3580 = .ok (.i2c, 1) := by decide +kernel
theorem dL_law_3581 : decode cL_law 3581 = .ok (.invokevirtual 423, 3) := by decide +kernel
theorem dL_law_3584 : decode cL_law 3584 = .ok (.istore 7, 2) := by decide +kernel
theorem dL_law_3586 : decode cL_law 3586 = .ok (.aload_n 2, 1) := by decide +kernel
theorem dL_law_3587 : decode cL_law 3587 = .ok (.invokevirtual 221, 3) := by decide +kernel
theorem dL_law_3590 : decode cL_law 3590 = .ok (.iload 6, 2) := by decide +kernel
theorem dL_law_3592 : decode cL_law 3592 = .ok (.if_icmp .eq 5, 3) := by decide +kernel
theorem dL_law_3597 : decode cL_law 3597 = .ok (.iload 6, 2) := by decide +kernel
theorem dL_law_3599 : decode cL_law 3599 = .ok (.ifCond .ne 15, 3) := by decide +kernel
theorem dL_law_3602 : decode cL_law 3602 = .ok (.aload_n 3, 1) := by decide +kernel
theorem dL_law_3603 : decode cL_law 3603 = .ok (.iconst 0, 1) := by decide +kernel
theorem dL_law_3604 : decode cL_law 3604 = .ok (.laload, 1) := by decide +kernel
theorem dL_law_3605 : decode cL_law 3605 = .ok (.iload 7, 2) := by decide +kernel
theorem dL_law_3607 : decode cL_law 3607 = .ok (.i2l, 1) := by decide +kernel
theorem dL_law_3608 : decode cL_law 3608 = .ok (.lcmp, 1) := by decide +kernel
theorem dL_law_3609 : decode cL_law 3609 = .ok (.ifCond .eq 5, 3) := by decide +kernel
theorem dL_law_3614 : decode cL_law 3614 = .ok (.goto 650, 3) := by decide +kernel
theorem dL_law_3617 : decode cL_law 3617 = .ok (.aload_n 1, 1) := by decide +kernel
theorem dL_law_3618 : decode cL_law 3618 = .ok (.aload_n 0, 1) := by decide +kernel
theorem dL_law_3619 : decode cL_law 3619 = .ok (.iload 5, 2) := by decide +kernel
theorem dL_law_3621 : decode cL_law 3621 = .ok (.iconst 1, 1) := by decide +kernel
theorem dL_law_3622 : decode cL_law 3622 = .ok (.iadd, 1) := by decide +kernel
theorem dL_law_3623 : decode cL_law 3623 = .ok (.iaload, 1) := by decide +kernel
theorem dL_law_3624 : decode cL_law 3624 = .ok (.aload_n 0, 1) := by decide +kernel
theorem dL_law_3625 : decode cL_law 3625 = .ok (.iload 5, 2) := by decide +kernel
theorem dL_law_3627 : decode cL_law 3627 = .ok (.iconst 2, 1) := by decide +kernel
theorem dL_law_3628 : decode cL_law 3628 = .ok (.iadd, 1) := by decide +kernel
theorem dL_law_3629 : decode cL_law 3629 = .ok (.iaload, 1) := by decide +kernel
theorem dL_law_3630 : decode cL_law 3630 = .ok (.aload_n 3, 1) := by decide +kernel
theorem dL_law_3631 : decode cL_law 3631 = .ok (.invokestatic 424, 3) := by decide +kernel
theorem dL_law_3634 : decode cL_law 3634 = .ok (.istore 6, 2) := by decide +kernel
theorem dL_law_3636 : decode cL_law 3636 = .ok (.aload_n 2, 1) := by decide +kernel
theorem dL_law_3637 : decode cL_law 3637 = .ok (.aload_n 0, 1) := by decide +kernel
theorem dL_law_3638 : decode cL_law 3638 = .ok (.iload 5, 2) := by decide +kernel
theorem dL_law_3640 : decode cL_law 3640 = .ok (.iconst 1, 1) := by decide +kernel
theorem dL_law_3641 : decode cL_law 3641 = .ok (.iadd, 1) := by decide +kernel
theorem dL_law_3642 : decode cL_law 3642 = .ok (.iaload, 1) := by decide +kernel
theorem dL_law_3643 : decode cL_law 3643 = .ok (.aload_n 0, 1) := by decide +kernel
theorem dL_law_3644 : decode cL_law 3644 = .ok (.iload 5, 2) := by decide +kernel
theorem dL_law_3646 : decode cL_law 3646 = .ok (.iconst 2, 1) := by decide +kernel
theorem dL_law_3647 : decode cL_law 3647 = .ok (.iadd, 1) := by decide +kernel
theorem dL_law_3648 : decode cL_law 3648 = .ok (.iaload, 1) := by decide +kernel
theorem dL_law_3649 : decode cL_law 3649 = .ok (.invokevirtual 426, 3) := by decide +kernel
theorem dL_law_3652 : decode cL_law 3652 = .ok (.istore 7, 2) := by decide +kernel
theorem dL_law_3654 : decode cL_law 3654 = .ok (.aload_n 2, 1) := by decide +kernel
theorem dL_law_3655 : decode cL_law 3655 = .ok (.invokevirtual 221, 3) := by decide +kernel
theorem dL_law_3658 : decode cL_law 3658 = .ok (.iload 6, 2) := by decide +kernel
theorem dL_law_3660 : decode cL_law 3660 = .ok (.if_icmp .eq 5, 3) := by decide +kernel
theorem dL_law_3665 : decode cL_law 3665 = .ok (.iload 6, 2) := by decide +kernel
theorem dL_law_3667 : decode cL_law 3667 = .ok (.ifCond .ne 22, 3) := by decide +kernel
theorem dL_law_3689 : decode cL_law 3689 = .ok (.goto 575, 3) := by decide +kernel
theorem dL_law_3692 : decode cL_law 3692 = .ok (.aload_n 1, 1) := by decide +kernel
theorem dL_law_3693 : decode cL_law 3693 = .ok (.aload_n 0, 1) := by decide +kernel
theorem dL_law_3694 : decode cL_law 3694 = .ok (.iload 5, 2) := by decide +kernel
theorem dL_law_3696 : decode cL_law 3696 = .ok (.iconst 1, 1) := by decide +kernel
theorem dL_law_3697 : decode cL_law 3697 = .ok (.iadd, 1) := by decide +kernel
theorem dL_law_3698 : decode cL_law 3698 = .ok (.iaload, 1) := by decide +kernel
theorem dL_law_3699 : decode cL_law 3699 = .ok (.aload_n 0, 1) := by decide +kernel
theorem dL_law_3700 : decode cL_law 3700 = .ok (.iload 5, 2) := by decide +kernel
theorem dL_law_3702 : decode cL_law 3702 = .ok (.iconst 2, 1) := by decide +kernel
theorem dL_law_3703 : decode cL_law 3703 = .ok (.iadd, 1) := by decide +kernel
theorem dL_law_3704 : decode cL_law 3704 = .ok (.iaload, 1) := by decide +kernel
theorem dL_law_3705 : decode cL_law 3705 = .ok (.aload_n 3, 1) := by decide +kernel
theorem dL_law_3706 : decode cL_law 3706 = .ok (.invokestatic 427, 3) := by decide +kernel
theorem dL_law_3709 : decode cL_law 3709 = .ok (.istore 6, 2) := by decide +kernel
theorem dL_law_3711 : decode cL_law 3711 = .ok (.aload_n 2, 1) := by decide +kernel
theorem dL_law_3712 : decode cL_law 3712 = .ok (.aload_n 0, 1) := by decide +kernel
theorem dL_law_3713 : decode cL_law 3713 = .ok (.iload 5, 2) := by decide +kernel
theorem dL_law_3715 : decode cL_law 3715 = .ok (.iconst 1, 1) := by decide +kernel
theorem dL_law_3716 : decode cL_law 3716 = .ok (.iadd, 1) := by decide +kernel
theorem dL_law_3717 : decode cL_law 3717 = .ok (.iaload, 1) := by decide +kernel
theorem dL_law_3718 : decode cL_law 3718 = .ok (.aload_n 0, 1) := by decide +kernel
theorem dL_law_3719 : decode cL_law 3719 = .ok (.iload 5, 2) := by decide +kernel
theorem dL_law_3721 : decode cL_law 3721 = .ok (.iconst 2, 1) := by decide +kernel
theorem dL_law_3722 : decode cL_law 3722 = .ok (.iadd, 1) := by decide +kernel
theorem dL_law_3723 : decode cL_law 3723 = .ok (.iaload, 1) := by decide +kernel
theorem dL_law_3724 : decode cL_law 3724 = .ok (.invokevirtual 429, 3) := by decide +kernel
theorem dL_law_3727 : decode cL_law 3727 = .ok (.istore 7, 2) := by decide +kernel
theorem dL_law_3729 : decode cL_law 3729 = .ok (.aload_n 2, 1) := by decide +kernel
theorem dL_law_3730 : decode cL_law 3730 = .ok (.invokevirtual 221, 3) := by decide +kernel
theorem dL_law_3733 : decode cL_law 3733 = .ok (.iload 6, 2) := by decide +kernel
theorem dL_law_3735 : decode cL_law 3735 = .ok (.if_icmp .eq 5, 3) := by decide +kernel
theorem dL_law_3740 : decode cL_law 3740 = .ok (.iload 6, 2) := by decide +kernel
theorem dL_law_3742 : decode cL_law 3742 = .ok (.ifCond .ne 15, 3) := by decide +kernel
theorem dL_law_3757 : decode cL_law 3757 = .ok (.goto 507, 3) := by decide +kernel
theorem dL_law_3760 : decode cL_law 3760 = .ok (.aload_n 1, 1) := by decide +kernel
theorem dL_law_3761 : decode cL_law 3761 = .ok (.aload_n 0, 1) := by decide +kernel
theorem dL_law_3762 : decode cL_law 3762 = .ok (.iload 5, 2) := by decide +kernel
theorem dL_law_3764 : decode cL_law 3764 = .ok (.iconst 1, 1) := by decide +kernel
theorem dL_law_3765 : decode cL_law 3765 = .ok (.iadd, 1) := by decide +kernel
theorem dL_law_3766 : decode cL_law 3766 = .ok (.iaload, 1) := by decide +kernel
theorem dL_law_3767 : decode cL_law 3767 = .ok (.aload_n 0, 1) := by decide +kernel
theorem dL_law_3768 : decode cL_law 3768 = .ok (.iload 5, 2) := by decide +kernel
theorem dL_law_3770 : decode cL_law 3770 = .ok (.iconst 2, 1) := by decide +kernel
theorem dL_law_3771 : decode cL_law 3771 = .ok (.iadd, 1) := by decide +kernel
theorem dL_law_3772 : decode cL_law 3772 = .ok (.iaload, 1) := by decide +kernel
theorem dL_law_3773 : decode cL_law 3773 = .ok (.i2c, 1) := by decide +kernel
theorem dL_law_3774 : decode cL_law 3774 = .ok (.aload_n 3, 1) := by decide +kernel
theorem dL_law_3775 : decode cL_law 3775 = .ok (.invokestatic 430, 3) := by decide +kernel
theorem dL_law_3778 : decode cL_law 3778 = .ok (.istore 6, 2) := by decide +kernel
theorem dL_law_3780 : decode cL_law 3780 = .ok (.aload_n 2, 1) := by decide +kernel
theorem dL_law_3781 : decode cL_law 3781 = .ok (.aload_n 0, 1) := by decide +kernel
theorem dL_law_3782 : decode cL_law 3782 = .ok (.iload 5, 2) := by decide +kernel
theorem dL_law_3784 : decode cL_law 3784 = .ok (.iconst 1, 1) := by decide +kernel
theorem dL_law_3785 : decode cL_law 3785 = .ok (.iadd, 1) := by decide +kernel
theorem dL_law_3786 : decode cL_law 3786 = .ok (.iaload, 1) := by decide +kernel
theorem dL_law_3787 : decode cL_law 3787 = .ok (.aload_n 0, 1) := by decide +kernel
theorem dL_law_3788 : decode cL_law 3788 = .ok (.iload 5, 2) := by decide +kernel
theorem dL_law_3790 : decode cL_law 3790 = .ok (.iconst 2, 1) := by decide +kernel
theorem dL_law_3791 : decode cL_law 3791 = .ok (.iadd, 1) := by decide +kernel
theorem dL_law_3792 : decode cL_law 3792 = .ok (.iaload, 1) := by decide +kernel
theorem dL_law_3793 : decode cL_law 3793 = .ok (.i2c, 1) := by decide +kernel
theorem dL_law_3794 : decode cL_law 3794 = .ok (.invokevirtual 432, 3) := by decide +kernel
theorem dL_law_3797 : decode cL_law 3797 = .ok (.istore 7, 2) := by decide +kernel
theorem dL_law_3799 : decode cL_law 3799 = .ok (.aload_n 2, 1) := by decide +kernel
theorem dL_law_3800 : decode cL_law 3800 = .ok (.invokevirtual 221, 3) := by decide +kernel
theorem dL_law_3803 : decode cL_law 3803 = .ok (.iload 6, 2) := by decide +kernel
theorem dL_law_3805 : decode cL_law 3805 = .ok (.if_icmp .eq 5, 3) := by decide +kernel
theorem dL_law_3810 : decode cL_law 3810 = .ok (.iload 6, 2) := by decide +kernel
theorem dL_law_3812 : decode cL_law 3812 = .ok (.ifCond .ne 15, 3) := by decide +kernel
theorem dL_law_3827 : decode cL_law 3827 = .ok (.goto 437, 3) := by decide +kernel
theorem dL_law_3830 : decode cL_law 3830 = .ok (.aload_n 1, 1) := by decide +kernel
theorem dL_law_3831 : decode cL_law 3831 = .ok (.aload_n 0, 1) := by decide +kernel
theorem dL_law_3832 : decode cL_law 3832 = .ok (.iload 5, 2) := by decide +kernel
theorem dL_law_3834 : decode cL_law 3834 = .ok (.iconst 1, 1) := by decide +kernel
theorem dL_law_3835 : decode cL_law 3835 = .ok (.iadd, 1) := by decide +kernel
theorem dL_law_3836 : decode cL_law 3836 = .ok (.iaload, 1) := by decide +kernel
theorem dL_law_3837 : decode cL_law 3837 = .ok (.i2c, 1) := by decide +kernel
theorem dL_law_3838 : decode cL_law 3838 = .ok (.aload_n 3, 1) := by decide +kernel
theorem dL_law_3839 : decode cL_law 3839 = .ok (.invokestatic 433, 3) := by decide +kernel
theorem dL_law_3842 : decode cL_law 3842 = .ok (.istore 6, 2) := by decide +kernel
theorem dL_law_3844 : decode cL_law 3844 = .ok (.aload_n 2, 1) := by decide +kernel
theorem dL_law_3845 : decode cL_law 3845 = .ok (.aload_n 0, 1) := by decide +kernel
theorem dL_law_3846 : decode cL_law 3846 = .ok (.iload 5, 2) := by decide +kernel
theorem dL_law_3848 : decode cL_law 3848 = .ok (.iconst 1, 1) := by decide +kernel
theorem dL_law_3849 : decode cL_law 3849 = .ok (.iadd, 1) := by decide +kernel
theorem dL_law_3850 : decode cL_law 3850 = .ok (.iaload, 1) := by decide +kernel
theorem dL_law_3851 : decode cL_law 3851 = .ok (.i2c, 1) := by decide +kernel
theorem dL_law_3852 : decode cL_law 3852 = .ok (.invokevirtual 435, 3) := by decide +kernel
theorem dL_law_3855 : decode cL_law 3855 = .ok (.istore 7, 2) := by decide +kernel
theorem dL_law_3857 : decode cL_law 3857 = .ok (.aload_n 2, 1) := by decide +kernel
theorem dL_law_3858 : decode cL_law 3858 = .ok (.invokevirtual 221, 3) := by decide +kernel
theorem dL_law_3861 : decode cL_law 3861 = .ok (.iload 6, 2) := by decide +kernel
theorem dL_law_3863 : decode cL_law 3863 = .ok (.if_icmp .eq 5, 3) := by decide +kernel
theorem dL_law_3868 : decode cL_law 3868 = .ok (.iload 6, 2) := by decide +kernel
theorem dL_law_3870 : decode cL_law 3870 = .ok (.ifCond .ne 15, 3) := by decide +kernel
theorem dL_law_3873 : decode cL_law 3873 = .ok (.aload_n 3, 1) := by decide +kernel
theorem dL_law_3874 : decode cL_law 3874 = .ok (.iconst 0, 1) := by decide +kernel
theorem dL_law_3875 : decode cL_law 3875 = .ok (.laload, 1) := by decide +kernel
theorem dL_law_3876 : decode cL_law 3876 = .ok (.iload 7, 2) := by decide +kernel
theorem dL_law_3878 : decode cL_law 3878 = .ok (.i2l, 1) := by decide +kernel
theorem dL_law_3879 : decode cL_law 3879 = .ok (.lcmp, 1) := by decide +kernel
theorem dL_law_3880 : decode cL_law 3880 = .ok (.ifCond .eq 5, 3) := by decide +kernel
theorem dL_law_3885 : decode cL_law 3885 = .ok (.goto 379, 3) := by decide +kernel
theorem dL_law_3888 : decode cL_law 3888 = .ok (.aload_n 1, 1) := by decide +kernel
theorem dL_law_3889 : decode cL_law 3889 = .ok (.aload_n 0, 1) := by decide +kernel
theorem dL_law_3890 : decode cL_law 3890 = .ok (.iload 5, 2) := by decide +kernel
theorem dL_law_3892 : decode cL_law 3892 = .ok (.iconst 1, 1) := by decide +kernel
theorem dL_law_3893 : decode cL_law 3893 = .ok (.iadd, 1) := by decide +kernel
theorem dL_law_3894 : decode cL_law 3894 = .ok (.iaload, 1) := by decide +kernel
theorem dL_law_3895 : decode cL_law 3895 = .ok (.aload_n 0, 1) := by decide +kernel
theorem dL_law_3896 : decode cL_law 3896 = .ok (.iload 5, 2) := by decide +kernel
theorem dL_law_3898 : decode cL_law 3898 = .ok (.iconst 2, 1) := by decide +kernel
theorem dL_law_3899 : decode cL_law 3899 = .ok (.iadd, 1) := by decide +kernel
theorem dL_law_3900 : decode cL_law 3900 = .ok (.iaload, 1) := by decide +kernel
theorem dL_law_3901 : decode cL_law 3901 = .ok (.i2c, 1) := by decide +kernel
theorem dL_law_3902 : decode cL_law 3902 = .ok (.aload_n 3, 1) := by decide +kernel
theorem dL_law_3903 : decode cL_law 3903 = .ok (.invokestatic 436, 3) := by decide +kernel
theorem dL_law_3906 : decode cL_law 3906 = .ok (.istore 6, 2) := by decide +kernel
theorem dL_law_3908 : decode cL_law 3908 = .ok (.aload_n 2, 1) := by decide +kernel
theorem dL_law_3909 : decode cL_law 3909 = .ok (.aload_n 0, 1) := by decide +kernel
theorem dL_law_3910 : decode cL_law 3910 = .ok (.iload 5, 2) := by decide +kernel
theorem dL_law_3912 : decode cL_law 3912 = .ok (.iconst 1, 1) := by decide +kernel
theorem dL_law_3913 : decode cL_law 3913 = .ok (.iadd, 1) := by decide +kernel
theorem dL_law_3914 : decode cL_law 3914 = .ok (.iaload, 1) := by decide +kernel
theorem dL_law_3915 : decode cL_law 3915 = .ok (.aload_n 0, 1) := by decide +kernel
theorem dL_law_3916 : decode cL_law 3916 = .ok (.iload 5, 2) := by decide +kernel
theorem dL_law_3918 : decode cL_law 3918 = .ok (.iconst 2, 1) := by decide +kernel
theorem dL_law_3919 : decode cL_law 3919 = .ok (.iadd, 1) := by decide +kernel
theorem dL_law_3920 : decode cL_law 3920 = .ok (.iaload, 1) := by decide +kernel
theorem dL_law_3921 : decode cL_law 3921 = .ok (.i2c, 1) := by decide +kernel
theorem dL_law_3922 : decode cL_law 3922 = .ok (.invokevirtual 438, 3) := by decide +kernel
theorem dL_law_3925 : decode cL_law 3925 = .ok (.istore 7, 2) := by decide +kernel
theorem dL_law_3927 : decode cL_law 3927 = .ok (.aload_n 2, 1) := by decide +kernel
theorem dL_law_3928 : decode cL_law 3928 = .ok (.invokevirtual 221, 3) := by decide +kernel
theorem dL_law_3931 : decode cL_law 3931 = .ok (.iload 6, 2) := by decide +kernel
theorem dL_law_3933 : decode cL_law 3933 = .ok (.if_icmp .eq 5, 3) := by decide +kernel
theorem dL_law_3938 : decode cL_law 3938 = .ok (.iload 6, 2) := by decide +kernel
theorem dL_law_3940 : decode cL_law 3940 = .ok (.ifCond .ne 15, 3) := by decide +kernel
theorem dL_law_3955 : decode cL_law 3955 = .ok (.goto 309, 3) := by decide +kernel
theorem dL_law_3958 : decode cL_law 3958 = .ok (.aload_n 1, 1) := by decide +kernel
theorem dL_law_3959 : decode cL_law 3959 = .ok (.aload_n 0, 1) := by decide +kernel
theorem dL_law_3960 : decode cL_law 3960 = .ok (.iload 5, 2) := by decide +kernel
theorem dL_law_3962 : decode cL_law 3962 = .ok (.iconst 1, 1) := by decide +kernel
theorem dL_law_3963 : decode cL_law 3963 = .ok (.iadd, 1) := by decide +kernel
theorem dL_law_3964 : decode cL_law 3964 = .ok (.iaload, 1) := by decide +kernel
theorem dL_law_3965 : decode cL_law 3965 = .ok (.aload_n 0, 1) := by decide +kernel
theorem dL_law_3966 : decode cL_law 3966 = .ok (.iload 5, 2) := by decide +kernel
theorem dL_law_3968 : decode cL_law 3968 = .ok (.iconst 2, 1) := by decide +kernel
theorem dL_law_3969 : decode cL_law 3969 = .ok (.iadd, 1) := by decide +kernel
theorem dL_law_3970 : decode cL_law 3970 = .ok (.iaload, 1) := by decide +kernel
theorem dL_law_3971 : decode cL_law 3971 = .ok (.aload_n 0, 1) := by decide +kernel
theorem dL_law_3972 : decode cL_law 3972 = .ok (.iload 5, 2) := by decide +kernel
theorem dL_law_3974 : decode cL_law 3974 = .ok (.iconst 3, 1) := by decide +kernel
theorem dL_law_3975 : decode cL_law 3975 = .ok (.iadd, 1) := by decide +kernel
theorem dL_law_3976 : decode cL_law 3976 = .ok (.iaload, 1) := by decide +kernel
theorem dL_law_3977 : decode cL_law 3977 = .ok (.aload_n 3, 1) := by decide +kernel
theorem dL_law_3978 : decode cL_law 3978 = .ok (.invokestatic 439, 3) := by decide +kernel
theorem dL_law_3981 : decode cL_law 3981 = .ok (.istore 6, 2) := by decide +kernel
theorem dL_law_3983 : decode cL_law 3983 = .ok (.aload_n 2, 1) := by decide +kernel
theorem dL_law_3984 : decode cL_law 3984 = .ok (.aload_n 0, 1) := by decide +kernel
theorem dL_law_3985 : decode cL_law 3985 = .ok (.iload 5, 2) := by decide +kernel
theorem dL_law_3987 : decode cL_law 3987 = .ok (.iconst 1, 1) := by decide +kernel
theorem dL_law_3988 : decode cL_law 3988 = .ok (.iadd, 1) := by decide +kernel
theorem dL_law_3989 : decode cL_law 3989 = .ok (.iaload, 1) := by decide +kernel
theorem dL_law_3990 : decode cL_law 3990 = .ok (.aload_n 0, 1) := by decide +kernel
theorem dL_law_3991 : decode cL_law 3991 = .ok (.iload 5, 2) := by decide +kernel
theorem dL_law_3993 : decode cL_law 3993 = .ok (.iconst 2, 1) := by decide +kernel
theorem dL_law_3994 : decode cL_law 3994 = .ok (.iadd, 1) := by decide +kernel
theorem dL_law_3995 : decode cL_law 3995 = .ok (.iaload, 1) := by decide +kernel
theorem dL_law_3996 : decode cL_law 3996 = .ok (.aload_n 0, 1) := by decide +kernel
theorem dL_law_3997 : decode cL_law 3997 = .ok (.iload 5, 2) := by decide +kernel
theorem dL_law_3999 : decode cL_law 3999 = .ok (.iconst 3, 1) := by decide +kernel
theorem dL_law_4000 : decode cL_law 4000 = .ok (.iadd, 1) := by decide +kernel
theorem dL_law_4001 : decode cL_law 4001 = .ok (.iaload, 1) := by decide +kernel
theorem dL_law_4002 : decode cL_law 4002 = .ok (.invokevirtual 441, 3) := by decide +kernel
theorem dL_law_4005 : decode cL_law 4005 = .ok (.istore 7, 2) := by decide +kernel
theorem dL_law_4007 : decode cL_law 4007 = .ok (.aload_n 2, 1) := by decide +kernel
theorem dL_law_4008 : decode cL_law 4008 = .ok (.invokevirtual 221, 3) := by decide +kernel
theorem dL_law_4011 : decode cL_law 4011 = .ok (.iload 6, 2) := by decide +kernel
theorem dL_law_4013 : decode cL_law 4013 = .ok (.if_icmp .eq 5, 3) := by decide +kernel
theorem dL_law_4018 : decode cL_law 4018 = .ok (.iload 6, 2) := by decide +kernel
theorem dL_law_4020 : decode cL_law 4020 = .ok (.ifCond .ne 15, 3) := by decide +kernel
theorem dL_law_4023 : decode cL_law 4023 = .ok (.aload_n 3, 1) := by decide +kernel
theorem dL_law_4024 : decode cL_law 4024 = .ok (.iconst 0, 1) := by decide +kernel
theorem dL_law_4025 : decode cL_law 4025 = .ok (.laload, 1) := by decide +kernel
theorem dL_law_4026 : decode cL_law 4026 = .ok (.iload 7, 2) := by decide +kernel
theorem dL_law_4028 : decode cL_law 4028 = .ok (.i2l, 1) := by decide +kernel
theorem dL_law_4029 : decode cL_law 4029 = .ok (.lcmp, 1) := by decide +kernel
theorem dL_law_4030 : decode cL_law 4030 = .ok (.ifCond .eq 5, 3) := by decide +kernel
theorem dL_law_4035 : decode cL_law 4035 = .ok (.goto 229, 3) := by decide +kernel
set_option maxHeartbeats 4000000 in
set_option maxRecDepth 100000 in
theorem lw_case_50 {p : Program} {l : Launch} {e : Env} {s : State} {m : MethodId} {below : List Frame} {meth : Method} {c : Code} {H : Heap} {locs : List Loc} {ls : Array Slot} {Q : State → Prop} {D : va_G} {g : Nat → ClassId} {z0 b : Nat} {xs : Nat → Int32} {a : Nat → Nat} {o1 o2 : Nat} (hfl : l.stackTraces = false) (hx : p.tables.exec = Jvm.exec) (hb : c.code = cL_law) (hml : c.maxLocals = 9) (hown : s.vm.findClass RL = some m.cls) (ht : ∀ w ∈ TG, w.before #[Value.ref b] s = true) (hX : va_X b 6 xs s s.heap) (hbl : b < s.heap.size) (hbA : ¬ va_A [] s.heap.size b) (hK : KK D g s) (hZ : ZZ g z0 s) (hz : z0 ≤ s.heap.size) (hAz : ∀ q, va_A [] s.heap.size q → z0 ≤ q) (hP : va_P D vwCl (lwW a g o1 o2) H) (hD : va_D (va_A [] s.heap.size) (lwW a g o1 o2)) (hS : va_S (va_A [] s.heap.size) s.heap H locs) (hl : lv_has ls 9 [(0, .ref b), (1, .ref (a 0)), (2, .ref (a 200)), (3, .ref o1), (4, .ref o2), (5, .int 0)])
    (kk : ∀ (H : Heap) (locs : List Loc) (ls : Array Slot), va_S (va_A [] s.heap.size) s.heap H locs → lv_has ls 9 [(5, .int 0), (0, .ref b)] → W p l e room_1 s m #[Value.ref b] below meth c H locs (200 + 300) (8000 + 2000) Q (F0 m 4264 ls [])) :
    W p l e room_1 s m #[Value.ref b] below meth c H locs 200 8000 Q (F0 m 3016 ls []) := by
  have hA : ∀ q : Nat, s.heap.size ≤ q → va_A [] s.heap.size q := Anw
  have hP := hP.sub (ws' := [((a 0), f_x a), ((a 3), f_rows a), ((a 200), f_m a g), ((a 206), .inr (5, [.int 0, .ref (g 100), .int 0])), (o1, .inl (g 1, 1, .inr (.inl (fun _ => 0))))]) [0, 7, 26, 32, 61] rfl
  have hD := hD.sub (ws' := [((a 0), f_x a), ((a 3), f_rows a), ((a 200), f_m a g), ((a 206), .inr (5, [.int 0, .ref (g 100), .int 0])), (o1, .inl (g 1, 1, .inr (.inl (fun _ => 0))))]) [0, 7, 26, 32, 61] (by decide) rfl
  refine lv_aload_n hx hb dL_law_3016 rfl (lv_at hl 1 rfl) ?_
  refine lv_aload_n hx hb dL_law_3017 rfl (lv_at hl 0 rfl) ?_
  refine lv_iload hx hb dL_law_3018 (lv_at hl 5 rfl) ?_
  refine lv_iconst (v := 1) hx hb dL_law_3020 (by decide) ?_
  refine lv_iadd hx hb dL_law_3021 ?_
  refine r_topi (v := 1) (by decide) ?_
  refine va_sld hx hb hX hbl hbA hS (by unfold vp_in; decide) dL_law_3022 ?_
  refine r_topi (v := xs 1) (congrArg xs (by decide)) ?_
  refine lv_aload_n hx hb dL_law_3023 rfl (lv_at hl 3 rfl) ?_
  have hPc : va_P D vwCl [(o1, .inl (g 1, 1, .inr (.inl (fun _ => 0)))), ((a 0), f_x a), ((a 3), f_rows a)] _ := hP.sub (ws' := [(o1, .inl (g 1, 1, .inr (.inl (fun _ => 0)))), ((a 0), f_x a), ((a 3), f_rows a)]) [4, 0, 1] rfl
  have hDc : va_D (fun q => z0 ≤ q) [(o1, .inl (g 1, 1, .inr (.inl (fun _ => 0)))), ((a 0), f_x a), ((a 3), f_rows a)] := (hD.to hAz).pick (ws' := [(o1, .inl (g 1, 1, .inr (.inl (fun _ => 0)))), ((a 0), f_x a), ((a 3), f_rows a)]) [4, 0, 1] (by decide) rfl
  have hFc := va_free (wc := [(o1, .inl (g 1, 1, .inr (.inl (fun _ => 0)))), ((a 0), f_x a), ((a 3), f_rows a)]) hD hS hA [4, 0, 1] rfl
  refine va_calli (vx_runSW (As := [.ref (a 0), .int (xs 1), .ref o1]) (rest := []) ⟨hx, hb, hml, hown, ht⟩ (k_L_orderAt l hfl D g z0 _ a (xs 1) o1) (vx_cwSW 3 ht (gS w_1113 w_1115 w_767 w_1114) rfl rfl rfl (by decide +kernel) (le2 rfl rfl)) ⟨PP.blind, PP.mk' hK hZ hz hAz hS hPc hDc⟩ rfl rfl hl.1 rfl (lv_room (Nat.le_of_ble_eq_true rfl)) dL_law_3024 (le2 rfl rfl)) hS (fun q _ h => hFc q h) hFc (fun r u t H locs ht1 hvm hw hB hz1 hk1 hS => ?_)
  obtain ⟨rfl, hw⟩ := hw
  obtain ⟨hP1, hD1⟩ := hB
  rw [ht1] at hP1
  obtain ⟨hP, hD⟩ := va_join (wr := [((a 200), f_m a g), ((a 206), .inr (5, [.int 0, .ref (g 100), .int 0]))]) (w1 := [(o1, .inl (g 1, 1, .inr (.inl (fun _ => 0))))]) hP hD [4, 0, 1] [2, 3] rfl rfl (by decide) (by decide) hk1 hFc hP1 hD1
  have hP : va_P D vwCl [((a 200), f_m a g), ((a 206), .inr (5, [.int 0, .ref (g 100), .int 0])), (o1, .inl (g 1, 1, .inr (.inl (fun _ => 0))))] H := hP
  have hD : va_D (va_A [] s.heap.size) [((a 200), f_m a g), ((a 206), .inr (5, [.int 0, .ref (g 100), .int 0])), (o1, .inl (g 1, 1, .inr (.inl (fun _ => 0))))] := hD
  refine lv_istore (lv' := [(6, .int 1), (0, .ref b), (1, .ref (a 0)), (2, .ref (a 200)), (3, .ref o1), (4, .ref o2), (5, .int 0)]) hx hb dL_law_3027 hl (by decide) rfl (fun ls hl => ?_)
  refine lv_aload_n hx hb dL_law_3029 rfl (lv_at hl 3 rfl) ?_
  refine lv_aload_n hx hb dL_law_3030 rfl (lv_at hl 1 rfl) ?_
  refine lv_iload hx hb dL_law_3031 (lv_at hl 6 rfl) ?_
  refine lv_iconst (v := 1) hx hb dL_law_3033 (by decide) ?_
  refine lv_iadd hx hb dL_law_3034 ?_
  refine r_topi (v := 1) (by decide) ?_
  refine va_sld hx hb hX hbl hbA hS (by unfold vp_in; decide) dL_law_3035 ?_
  refine r_topi (v := xs 1) (congrArg xs (by decide)) ?_
  have hPc : va_P D vwCl [((a 200), f_m a g), ((a 206), .inr (5, [.int 0, .ref (g 100), .int 0]))] _ := hP.sub (ws' := [((a 200), f_m a g), ((a 206), .inr (5, [.int 0, .ref (g 100), .int 0]))]) [0, 1] rfl
  have hDc : va_D (fun q => z0 ≤ q) [((a 200), f_m a g), ((a 206), .inr (5, [.int 0, .ref (g 100), .int 0]))] := (hD.to hAz).pick (ws' := [((a 200), f_m a g), ((a 206), .inr (5, [.int 0, .ref (g 100), .int 0]))]) [0, 1] (by decide) rfl
  have hFc := va_free (wc := [((a 200), f_m a g), ((a 206), .inr (5, [.int 0, .ref (g 100), .int 0]))]) hD hS hA [0, 1] rfl
  refine va_calli (va_runV (As := [.int (xs 1)]) (rest := []) ⟨hx, hb, hml, hown, ht⟩ (k_X15_orderAt l D g z0 _ a (xs 1)) (cwV 1 ht (gV w_1116 w_1118 w_1119 w_334 w_1117) rfl rfl rfl (by decide +kernel) (le2 rfl rfl)) ⟨PP.blind, va_recv hK.1 hP (ci := 21) (q0 := 0) rfl rfl, PP.mk' hK hZ hz hAz hS hPc hDc⟩ rfl rfl hl.1 rfl (lv_room (Nat.le_of_ble_eq_true rfl)) dL_law_3036 (le2 rfl rfl)) hS (fun q _ h => hFc q h) hFc (fun r u t H locs ht1 hvm hw hB hz1 hk1 hS => ?_)
  obtain ⟨rfl, hw⟩ := hw
  obtain ⟨hP1, hD1⟩ := hB
  rw [ht1] at hP1
  obtain ⟨hP, hD⟩ := va_join (wr := [(o1, .inl (g 1, 1, .inr (.inl (fun _ => 0))))]) (w1 := [((a 200), .inr (21, [.int 1, .ref (a 201), .ref (a 202), .ref (a 203), .ref (a 204), .ref (a 205), .ref (a 206), .int 0, .int 0, .int 0, .int 0, .ref (a 208), .ref (a 209), .ref (a 210), .ref (a 211), .ref (a 212), .int 4, .int 12, .int (-1), .int 0, .ref (g 200), .ref (a 213), .int 0, .int 97, .ref (a 214), .ref (a 215), .ref (a 207), .null, .int 0]))]) hP hD [0, 1] [2] rfl rfl (by decide) (by decide) hk1 hFc hP1 hD1
  have hP : va_P D vwCl [(o1, .inl (g 1, 1, .inr (.inl (fun _ => 0)))), ((a 200), .inr (21, [.int 1, .ref (a 201), .ref (a 202), .ref (a 203), .ref (a 204), .ref (a 205), .ref (a 206), .int 0, .int 0, .int 0, .int 0, .ref (a 208), .ref (a 209), .ref (a 210), .ref (a 211), .ref (a 212), .int 4, .int 12, .int (-1), .int 0, .ref (g 200), .ref (a 213), .int 0, .int 97, .ref (a 214), .ref (a 215), .ref (a 207), .null, .int 0]))] H := hP
  have hD : va_D (va_A [] s.heap.size) [(o1, .inl (g 1, 1, .inr (.inl (fun _ => 0)))), ((a 200), .inr (21, [.int 1, .ref (a 201), .ref (a 202), .ref (a 203), .ref (a 204), .ref (a 205), .ref (a 206), .int 0, .int 0, .int 0, .int 0, .ref (a 208), .ref (a 209), .ref (a 210), .ref (a 211), .ref (a 212), .int 4, .int 12, .int (-1), .int 0, .ref (g 200), .ref (a 213), .int 0, .int 97, .ref (a 214), .ref (a 215), .ref (a 207), .null, .int 0]))] := hD
  refine lv_istore (lv' := [(7, .int 0), (6, .int 1), (0, .ref b), (1, .ref (a 0)), (2, .ref (a 200)), (3, .ref o1), (4, .ref o2), (5, .int 0)]) hx hb dL_law_3039 hl (by decide) rfl (fun ls hl => ?_)
  refine lv_aload_n hx hb dL_law_3041 rfl (lv_at hl 4 rfl) ?_
  have hPc : va_P D vwCl [((a 200), .inr (21, [.int 1, .ref (a 201), .ref (a 202), .ref (a 203), .ref (a 204), .ref (a 205), .ref (a 206), .int 0, .int 0, .int 0, .int 0, .ref (a 208), .ref (a 209), .ref (a 210), .ref (a 211), .ref (a 212), .int 4, .int 12, .int (-1), .int 0, .ref (g 200), .ref (a 213), .int 0, .int 97, .ref (a 214), .ref (a 215), .ref (a 207), .null, .int 0]))] _ := hP.sub (ws' := [((a 200), .inr (21, [.int 1, .ref (a 201), .ref (a 202), .ref (a 203), .ref (a 204), .ref (a 205), .ref (a 206), .int 0, .int 0, .int 0, .int 0, .ref (a 208), .ref (a 209), .ref (a 210), .ref (a 211), .ref (a 212), .int 4, .int 12, .int (-1), .int 0, .ref (g 200), .ref (a 213), .int 0, .int 97, .ref (a 214), .ref (a 215), .ref (a 207), .null, .int 0]))]) [1] rfl
  have hDc : va_D (fun q => z0 ≤ q) [((a 200), .inr (21, [.int 1, .ref (a 201), .ref (a 202), .ref (a 203), .ref (a 204), .ref (a 205), .ref (a 206), .int 0, .int 0, .int 0, .int 0, .ref (a 208), .ref (a 209), .ref (a 210), .ref (a 211), .ref (a 212), .int 4, .int 12, .int (-1), .int 0, .ref (g 200), .ref (a 213), .int 0, .int 97, .ref (a 214), .ref (a 215), .ref (a 207), .null, .int 0]))] := (hD.to hAz).pick (ws' := [((a 200), .inr (21, [.int 1, .ref (a 201), .ref (a 202), .ref (a 203), .ref (a 204), .ref (a 205), .ref (a 206), .int 0, .int 0, .int 0, .int 0, .ref (a 208), .ref (a 209), .ref (a 210), .ref (a 211), .ref (a 212), .int 4, .int 12, .int (-1), .int 0, .ref (g 200), .ref (a 213), .int 0, .int 97, .ref (a 214), .ref (a 215), .ref (a 207), .null, .int 0]))]) [1] (by decide) rfl
  have hFc := va_free (wc := [((a 200), .inr (21, [.int 1, .ref (a 201), .ref (a 202), .ref (a 203), .ref (a 204), .ref (a 205), .ref (a 206), .int 0, .int 0, .int 0, .int 0, .ref (a 208), .ref (a 209), .ref (a 210), .ref (a 211), .ref (a 212), .int 4, .int 12, .int (-1), .int 0, .ref (g 200), .ref (a 213), .int 0, .int 97, .ref (a 214), .ref (a 215), .ref (a 207), .null, .int 0]))]) hD hS hA [1] rfl
  refine va_calli (va_runV (As := []) (rest := []) ⟨hx, hb, hml, hown, ht⟩ (k_X15_thrown_v2 l D g z0 _ a) (cwV 0 ht (gV w_772 w_774 w_775 w_334 w_773) rfl rfl rfl (by decide +kernel) (le2 rfl rfl)) ⟨PP.blind, va_recv hK.1 hP (ci := 21) (q0 := 1) rfl rfl, PP.mk' hK hZ hz hAz hS hPc hDc⟩ rfl rfl hl.1 rfl (lv_room (Nat.le_of_ble_eq_true rfl)) dL_law_3042 (le2 rfl rfl)) hS (fun q _ h => hFc q h) hFc (fun r u t H locs ht1 hvm hw hB hz1 hk1 hS => ?_)
  obtain ⟨rfl, hw⟩ := hw
  obtain ⟨hP1, hD1⟩ := hB
  rw [ht1] at hP1
  obtain ⟨hP, hD⟩ := va_join (wr := [(o1, .inl (g 1, 1, .inr (.inl (fun _ => 0))))]) (w1 := [((a 200), .inr (21, [.int 1, .ref (a 201), .ref (a 202), .ref (a 203), .ref (a 204), .ref (a 205), .ref (a 206), .int 0, .int 0, .int 0, .int 0, .ref (a 208), .ref (a 209), .ref (a 210), .ref (a 211), .ref (a 212), .int 4, .int 12, .int (-1), .int 0, .ref (g 200), .ref (a 213), .int 0, .int 97, .ref (a 214), .ref (a 215), .ref (a 207), .null, .int 0]))]) hP hD [1] [0] rfl rfl (by decide) (by decide) hk1 hFc hP1 hD1
  have hP : va_P D vwCl [(o1, .inl (g 1, 1, .inr (.inl (fun _ => 0)))), ((a 200), .inr (21, [.int 1, .ref (a 201), .ref (a 202), .ref (a 203), .ref (a 204), .ref (a 205), .ref (a 206), .int 0, .int 0, .int 0, .int 0, .ref (a 208), .ref (a 209), .ref (a 210), .ref (a 211), .ref (a 212), .int 4, .int 12, .int (-1), .int 0, .ref (g 200), .ref (a 213), .int 0, .int 97, .ref (a 214), .ref (a 215), .ref (a 207), .null, .int 0]))] H := hP
  have hD : va_D (va_A [] s.heap.size) [(o1, .inl (g 1, 1, .inr (.inl (fun _ => 0)))), ((a 200), .inr (21, [.int 1, .ref (a 201), .ref (a 202), .ref (a 203), .ref (a 204), .ref (a 205), .ref (a 206), .int 0, .int 0, .int 0, .int 0, .ref (a 208), .ref (a 209), .ref (a 210), .ref (a 211), .ref (a 212), .int 4, .int 12, .int (-1), .int 0, .ref (g 200), .ref (a 213), .int 0, .int 97, .ref (a 214), .ref (a 215), .ref (a 207), .null, .int 0]))] := hD
  refine lv_iload hx hb dL_law_3045 (lv_at hl 1 rfl) ?_
  refine lv_icmp_eq (tgt := 3052) hx hb dL_law_3047 (by decide) (fun c_1 => ?_) (fun c_1 => ?_)
  · refine lv_iload hx hb dL_law_3052 (lv_at hl 1 rfl) ?_
    refine lv_if_ne (tgt := 3069) hx hb dL_law_3054 (by decide) (fun c_2 => ?_) (fun c_2 => ?_)
    · refine lv_goto (tgt := 4264) hx hb dL_law_3069 (by decide) ?_
      refine W.widen (k := 200 + 300) (n := 8000 + 2000) (Nat.le_of_ble_eq_true rfl) (Nat.le_of_ble_eq_true rfl) ?_
      exact kk _ _ _ hS (lv_sub hl [7, 2] rfl)
    · exact absurd c_2 (by decide)
  · exact absurd c_1 (by decide)
set_option maxHeartbeats 4000000 in
set_option maxRecDepth 100000 in
theorem lw_case_51 {p : Program} {l : Launch} {e : Env} {s : State} {m : MethodId} {below : List Frame} {meth : Method} {c : Code} {H : Heap} {locs : List Loc} {ls : Array Slot} {Q : State → Prop} {D : va_G} {g : Nat → ClassId} {z0 b : Nat} {xs : Nat → Int32} {a : Nat → Nat} {o1 o2 : Nat} (hfl : l.stackTraces = false) (hx : p.tables.exec = Jvm.exec) (hb : c.code = cL_law) (hml : c.maxLocals = 9) (hown : s.vm.findClass RL = some m.cls) (ht : ∀ w ∈ TG, w.before #[Value.ref b] s = true) (hX : va_X b 6 xs s s.heap) (hbl : b < s.heap.size) (hbA : ¬ va_A [] s.heap.size b) (hK : KK D g s) (hZ : ZZ g z0 s) (hz : z0 ≤ s.heap.size) (hAz : ∀ q, va_A [] s.heap.size q → z0 ≤ q) (hP : va_P D vwCl (lwW a g o1 o2) H) (hD : va_D (va_A [] s.heap.size) (lwW a g o1 o2)) (hS : va_S (va_A [] s.heap.size) s.heap H locs) (hl : lv_has ls 9 [(0, .ref b), (1, .ref (a 0)), (2, .ref (a 200)), (3, .ref o1), (4, .ref o2), (5, .int 0)])
    (kk : ∀ (H : Heap) (locs : List Loc) (ls : Array Slot), va_S (va_A [] s.heap.size) s.heap H locs → lv_has ls 9 [(5, .int 0), (0, .ref b)] → W p l e room_1 s m #[Value.ref b] below meth c H locs (200 + 300) (8000 + 2000) Q (F0 m 4264 ls [])) :
    W p l e room_1 s m #[Value.ref b] below meth c H locs 200 8000 Q (F0 m 3072 ls []) := by
  have hA : ∀ q : Nat, s.heap.size ≤ q → va_A [] s.heap.size q := Anw
  have hP := hP.sub (ws' := [((a 0), f_x a), ((a 1), f_net a), ((a 2), f_book a), ((a 3), f_rows a), ((a 38), .inl (g 1, 12, .inr (.inl (fun _ => 0)))), ((a 39), .inl (g 1, 12, .inr (.inl (fun _ => 0)))), ((a 4), f_words a), ((a 200), f_m a g), ((a 201), .inr (5, [.int 0, .ref (g 100), .int 0])), ((a 206), .inr (5, [.int 0, .ref (g 100), .int 0])), (o1, .inl (g 1, 1, .inr (.inl (fun _ => 0))))]) [0, 5, 6, 7, 8, 9, 11, 26, 27, 32, 61] rfl
  have hD := hD.sub (ws' := [((a 0), f_x a), ((a 1), f_net a), ((a 2), f_book a), ((a 3), f_rows a), ((a 38), .inl (g 1, 12, .inr (.inl (fun _ => 0)))), ((a 39), .inl (g 1, 12, .inr (.inl (fun _ => 0)))), ((a 4), f_words a), ((a 200), f_m a g), ((a 201), .inr (5, [.int 0, .ref (g 100), .int 0])), ((a 206), .inr (5, [.int 0, .ref (g 100), .int 0])), (o1, .inl (g 1, 1, .inr (.inl (fun _ => 0))))]) [0, 5, 6, 7, 8, 9, 11, 26, 27, 32, 61] (by decide) rfl
  refine lv_aload_n hx hb dL_law_3072 rfl (lv_at hl 1 rfl) ?_
  refine lv_aload_n hx hb dL_law_3073 rfl (lv_at hl 0 rfl) ?_
  refine lv_iload hx hb dL_law_3074 (lv_at hl 5 rfl) ?_
  refine lv_iconst (v := 1) hx hb dL_law_3076 (by decide) ?_
  refine lv_iadd hx hb dL_law_3077 ?_
  refine r_topi (v := 1) (by decide) ?_
  refine va_sld hx hb hX hbl hbA hS (by unfold vp_in; decide) dL_law_3078 ?_
  refine r_topi (v := xs 1) (congrArg xs (by decide)) ?_
  refine lv_aload_n hx hb dL_law_3079 rfl (lv_at hl 3 rfl) ?_
  have hPc : va_P D vwCl [(o1, .inl (g 1, 1, .inr (.inl (fun _ => 0)))), ((a 0), f_x a), ((a 3), f_rows a), ((a 4), f_words a), ((a 38), .inl (g 1, 12, .inr (.inl (fun _ => 0)))), ((a 39), .inl (g 1, 12, .inr (.inl (fun _ => 0)))), ((a 1), f_net a), ((a 2), f_book a)] _ := hP.sub (ws' := [(o1, .inl (g 1, 1, .inr (.inl (fun _ => 0)))), ((a 0), f_x a), ((a 3), f_rows a), ((a 4), f_words a), ((a 38), .inl (g 1, 12, .inr (.inl (fun _ => 0)))), ((a 39), .inl (g 1, 12, .inr (.inl (fun _ => 0)))), ((a 1), f_net a), ((a 2), f_book a)]) [10, 0, 3, 6, 4, 5, 1, 2] rfl
  have hDc : va_D (fun q => z0 ≤ q) [(o1, .inl (g 1, 1, .inr (.inl (fun _ => 0)))), ((a 0), f_x a), ((a 3), f_rows a), ((a 4), f_words a), ((a 38), .inl (g 1, 12, .inr (.inl (fun _ => 0)))), ((a 39), .inl (g 1, 12, .inr (.inl (fun _ => 0)))), ((a 1), f_net a), ((a 2), f_book a)] := (hD.to hAz).pick (ws' := [(o1, .inl (g 1, 1, .inr (.inl (fun _ => 0)))), ((a 0), f_x a), ((a 3), f_rows a), ((a 4), f_words a), ((a 38), .inl (g 1, 12, .inr (.inl (fun _ => 0)))), ((a 39), .inl (g 1, 12, .inr (.inl (fun _ => 0)))), ((a 1), f_net a), ((a 2), f_book a)]) [10, 0, 3, 6, 4, 5, 1, 2] (by decide) rfl
  have hFc := va_free (wc := [(o1, .inl (g 1, 1, .inr (.inl (fun _ => 0)))), ((a 0), f_x a), ((a 3), f_rows a), ((a 4), f_words a), ((a 38), .inl (g 1, 12, .inr (.inl (fun _ => 0)))), ((a 39), .inl (g 1, 12, .inr (.inl (fun _ => 0)))), ((a 1), f_net a), ((a 2), f_book a)]) hD hS hA [10, 0, 3, 6, 4, 5, 1, 2] rfl
  refine va_calli (vx_runSW (As := [.ref (a 0), .int (xs 1), .ref o1]) (rest := []) ⟨hx, hb, hml, hown, ht⟩ (k_L_escapes l hfl D g z0 _ a (xs 1) o1) (vx_cwSW 3 ht (gS w_1120 w_1122 w_767 w_1121) rfl rfl rfl (by decide +kernel) (le2 rfl rfl)) ⟨PP.blind, PP.mk' hK hZ hz hAz hS hPc hDc⟩ rfl rfl hl.1 rfl (lv_room (Nat.le_of_ble_eq_true rfl)) dL_law_3080 (le2 rfl rfl)) hS (fun q _ h => hFc q h) hFc (fun r u t H locs ht1 hvm hw hB hz1 hk1 hS => ?_)
  rcases hw with hw | hw
  · obtain ⟨rfl, hw⟩ := hw
    rcases hw with hw | hw
    · have c_1 := hw
      obtain ⟨hP1, hD1⟩ := hB
      rw [ht1] at hP1
      obtain ⟨hP, hD⟩ := va_join (wr := [((a 200), f_m a g), ((a 201), .inr (5, [.int 0, .ref (g 100), .int 0])), ((a 206), .inr (5, [.int 0, .ref (g 100), .int 0]))]) (w1 := [(o1, .inl (g 1, 1, .inr (.inl (fun _ => 0))))]) hP hD [10, 0, 3, 6, 4, 5, 1, 2] [7, 8, 9] rfl rfl (by decide) (by decide) hk1 hFc hP1 hD1
      have hP : va_P D vwCl [((a 200), f_m a g), ((a 201), .inr (5, [.int 0, .ref (g 100), .int 0])), ((a 206), .inr (5, [.int 0, .ref (g 100), .int 0])), (o1, .inl (g 1, 1, .inr (.inl (fun _ => 0))))] H := hP
      have hD : va_D (va_A [] s.heap.size) [((a 200), f_m a g), ((a 201), .inr (5, [.int 0, .ref (g 100), .int 0])), ((a 206), .inr (5, [.int 0, .ref (g 100), .int 0])), (o1, .inl (g 1, 1, .inr (.inl (fun _ => 0))))] := hD
      refine lv_istore (lv' := [(6, .int 1), (0, .ref b), (1, .ref (a 0)), (2, .ref (a 200)), (3, .ref o1), (4, .ref o2), (5, .int 0)]) hx hb dL_law_3083 hl (by decide) rfl (fun ls hl => ?_)
      refine lv_aload_n hx hb dL_law_3085 rfl (lv_at hl 3 rfl) ?_
      refine lv_aload_n hx hb dL_law_3086 rfl (lv_at hl 1 rfl) ?_
      refine lv_iload hx hb dL_law_3087 (lv_at hl 6 rfl) ?_
      refine lv_iconst (v := 1) hx hb dL_law_3089 (by decide) ?_
      refine lv_iadd hx hb dL_law_3090 ?_
      refine r_topi (v := 1) (by decide) ?_
      refine va_sld hx hb hX hbl hbA hS (by unfold vp_in; decide) dL_law_3091 ?_
      refine r_topi (v := xs 1) (congrArg xs (by decide)) ?_
      have hPc : va_P D vwCl [((a 200), f_m a g), ((a 206), .inr (5, [.int 0, .ref (g 100), .int 0])), ((a 201), .inr (5, [.int 0, .ref (g 100), .int 0]))] _ := hP.sub (ws' := [((a 200), f_m a g), ((a 206), .inr (5, [.int 0, .ref (g 100), .int 0])), ((a 201), .inr (5, [.int 0, .ref (g 100), .int 0]))]) [0, 2, 1] rfl
      have hDc : va_D (fun q => z0 ≤ q) [((a 200), f_m a g), ((a 206), .inr (5, [.int 0, .ref (g 100), .int 0])), ((a 201), .inr (5, [.int 0, .ref (g 100), .int 0]))] := (hD.to hAz).pick (ws' := [((a 200), f_m a g), ((a 206), .inr (5, [.int 0, .ref (g 100), .int 0])), ((a 201), .inr (5, [.int 0, .ref (g 100), .int 0]))]) [0, 2, 1] (by decide) rfl
      have hFc := va_free (wc := [((a 200), f_m a g), ((a 206), .inr (5, [.int 0, .ref (g 100), .int 0])), ((a 201), .inr (5, [.int 0, .ref (g 100), .int 0]))]) hD hS hA [0, 2, 1] rfl
      refine va_calli (va_runV (As := [.int (xs 1)]) (rest := []) ⟨hx, hb, hml, hown, ht⟩ (k_X15_escapes l D g z0 _ a (xs 1)) (cwV 1 ht (gV w_1123 w_1125 w_1126 w_334 w_1124) rfl rfl rfl (by decide +kernel) (le2 rfl rfl)) ⟨PP.blind, va_recv hK.1 hP (ci := 21) (q0 := 0) rfl rfl, PP.mk' hK hZ hz hAz hS hPc hDc⟩ rfl rfl hl.1 rfl (lv_room (Nat.le_of_ble_eq_true rfl)) dL_law_3092 (le2 rfl rfl)) hS (fun q _ h => hFc q h) hFc (fun r u t H locs ht1 hvm hw hB hz1 hk1 hS => ?_)
      rcases hw with hw | hw
      · obtain ⟨rfl, rfl, hw⟩ := hw
        rcases hw with hw | hw
        · have c_2 := hw
          obtain ⟨hP1, hD1⟩ := hB
          rw [ht1] at hP1
          obtain ⟨hP, hD⟩ := va_join (wr := [(o1, .inl (g 1, 1, .inr (.inl (fun _ => 0))))]) (w1 := [((a 200), .inr (21, [.int 1, .ref (a 201), .ref (a 202), .ref (a 203), .ref (a 204), .ref (a 205), .ref (a 206), .int 0, .int 0, .int 0, .int 0, .ref (a 208), .ref (a 209), .ref (a 210), .ref (a 211), .ref (a 212), .int 4, .int 12, .int (-1), .int 0, .ref (g 200), .ref (a 213), .int 0, .int 97, .ref (a 214), .ref (a 215), .ref (a 207), .null, .int 0]))]) hP hD [0, 2, 1] [3] rfl rfl (by decide) (by decide) hk1 hFc hP1 hD1
          have hP : va_P D vwCl [(o1, .inl (g 1, 1, .inr (.inl (fun _ => 0)))), ((a 200), .inr (21, [.int 1, .ref (a 201), .ref (a 202), .ref (a 203), .ref (a 204), .ref (a 205), .ref (a 206), .int 0, .int 0, .int 0, .int 0, .ref (a 208), .ref (a 209), .ref (a 210), .ref (a 211), .ref (a 212), .int 4, .int 12, .int (-1), .int 0, .ref (g 200), .ref (a 213), .int 0, .int 97, .ref (a 214), .ref (a 215), .ref (a 207), .null, .int 0]))] H := hP
          have hD : va_D (va_A [] s.heap.size) [(o1, .inl (g 1, 1, .inr (.inl (fun _ => 0)))), ((a 200), .inr (21, [.int 1, .ref (a 201), .ref (a 202), .ref (a 203), .ref (a 204), .ref (a 205), .ref (a 206), .int 0, .int 0, .int 0, .int 0, .ref (a 208), .ref (a 209), .ref (a 210), .ref (a 211), .ref (a 212), .int 4, .int 12, .int (-1), .int 0, .ref (g 200), .ref (a 213), .int 0, .int 97, .ref (a 214), .ref (a 215), .ref (a 207), .null, .int 0]))] := hD
          refine lv_istore (lv' := [(7, .int 0), (6, .int 1), (0, .ref b), (1, .ref (a 0)), (2, .ref (a 200)), (3, .ref o1), (4, .ref o2), (5, .int 0)]) hx hb dL_law_3095 hl (by decide) rfl (fun ls hl => ?_)
          refine lv_aload_n hx hb dL_law_3097 rfl (lv_at hl 4 rfl) ?_
          have hPc : va_P D vwCl [((a 200), .inr (21, [.int 1, .ref (a 201), .ref (a 202), .ref (a 203), .ref (a 204), .ref (a 205), .ref (a 206), .int 0, .int 0, .int 0, .int 0, .ref (a 208), .ref (a 209), .ref (a 210), .ref (a 211), .ref (a 212), .int 4, .int 12, .int (-1), .int 0, .ref (g 200), .ref (a 213), .int 0, .int 97, .ref (a 214), .ref (a 215), .ref (a 207), .null, .int 0]))] _ := hP.sub (ws' := [((a 200), .inr (21, [.int 1, .ref (a 201), .ref (a 202), .ref (a 203), .ref (a 204), .ref (a 205), .ref (a 206), .int 0, .int 0, .int 0, .int 0, .ref (a 208), .ref (a 209), .ref (a 210), .ref (a 211), .ref (a 212), .int 4, .int 12, .int (-1), .int 0, .ref (g 200), .ref (a 213), .int 0, .int 97, .ref (a 214), .ref (a 215), .ref (a 207), .null, .int 0]))]) [1] rfl
          have hDc : va_D (fun q => z0 ≤ q) [((a 200), .inr (21, [.int 1, .ref (a 201), .ref (a 202), .ref (a 203), .ref (a 204), .ref (a 205), .ref (a 206), .int 0, .int 0, .int 0, .int 0, .ref (a 208), .ref (a 209), .ref (a 210), .ref (a 211), .ref (a 212), .int 4, .int 12, .int (-1), .int 0, .ref (g 200), .ref (a 213), .int 0, .int 97, .ref (a 214), .ref (a 215), .ref (a 207), .null, .int 0]))] := (hD.to hAz).pick (ws' := [((a 200), .inr (21, [.int 1, .ref (a 201), .ref (a 202), .ref (a 203), .ref (a 204), .ref (a 205), .ref (a 206), .int 0, .int 0, .int 0, .int 0, .ref (a 208), .ref (a 209), .ref (a 210), .ref (a 211), .ref (a 212), .int 4, .int 12, .int (-1), .int 0, .ref (g 200), .ref (a 213), .int 0, .int 97, .ref (a 214), .ref (a 215), .ref (a 207), .null, .int 0]))]) [1] (by decide) rfl
          have hFc := va_free (wc := [((a 200), .inr (21, [.int 1, .ref (a 201), .ref (a 202), .ref (a 203), .ref (a 204), .ref (a 205), .ref (a 206), .int 0, .int 0, .int 0, .int 0, .ref (a 208), .ref (a 209), .ref (a 210), .ref (a 211), .ref (a 212), .int 4, .int 12, .int (-1), .int 0, .ref (g 200), .ref (a 213), .int 0, .int 97, .ref (a 214), .ref (a 215), .ref (a 207), .null, .int 0]))]) hD hS hA [1] rfl
          refine va_calli (va_runV (As := []) (rest := []) ⟨hx, hb, hml, hown, ht⟩ (k_X15_thrown_v2 l D g z0 _ a) (cwV 0 ht (gV w_772 w_774 w_775 w_334 w_773) rfl rfl rfl (by decide +kernel) (le2 rfl rfl)) ⟨PP.blind, va_recv hK.1 hP (ci := 21) (q0 := 1) rfl rfl, PP.mk' hK hZ hz hAz hS hPc hDc⟩ rfl rfl hl.1 rfl (lv_room (Nat.le_of_ble_eq_true rfl)) dL_law_3098 (le2 rfl rfl)) hS (fun q _ h => hFc q h) hFc (fun r u t H locs ht1 hvm hw hB hz1 hk1 hS => ?_)
          obtain ⟨rfl, hw⟩ := hw
          obtain ⟨hP1, hD1⟩ := hB
          rw [ht1] at hP1
          obtain ⟨hP, hD⟩ := va_join (wr := [(o1, .inl (g 1, 1, .inr (.inl (fun _ => 0))))]) (w1 := [((a 200), .inr (21, [.int 1, .ref (a 201), .ref (a 202), .ref (a 203), .ref (a 204), .ref (a 205), .ref (a 206), .int 0, .int 0, .int 0, .int 0, .ref (a 208), .ref (a 209), .ref (a 210), .ref (a 211), .ref (a 212), .int 4, .int 12, .int (-1), .int 0, .ref (g 200), .ref (a 213), .int 0, .int 97, .ref (a 214), .ref (a 215), .ref (a 207), .null, .int 0]))]) hP hD [1] [0] rfl rfl (by decide) (by decide) hk1 hFc hP1 hD1
          have hP : va_P D vwCl [(o1, .inl (g 1, 1, .inr (.inl (fun _ => 0)))), ((a 200), .inr (21, [.int 1, .ref (a 201), .ref (a 202), .ref (a 203), .ref (a 204), .ref (a 205), .ref (a 206), .int 0, .int 0, .int 0, .int 0, .ref (a 208), .ref (a 209), .ref (a 210), .ref (a 211), .ref (a 212), .int 4, .int 12, .int (-1), .int 0, .ref (g 200), .ref (a 213), .int 0, .int 97, .ref (a 214), .ref (a 215), .ref (a 207), .null, .int 0]))] H := hP
          have hD : va_D (va_A [] s.heap.size) [(o1, .inl (g 1, 1, .inr (.inl (fun _ => 0)))), ((a 200), .inr (21, [.int 1, .ref (a 201), .ref (a 202), .ref (a 203), .ref (a 204), .ref (a 205), .ref (a 206), .int 0, .int 0, .int 0, .int 0, .ref (a 208), .ref (a 209), .ref (a 210), .ref (a 211), .ref (a 212), .int 4, .int 12, .int (-1), .int 0, .ref (g 200), .ref (a 213), .int 0, .int 97, .ref (a 214), .ref (a 215), .ref (a 207), .null, .int 0]))] := hD
          refine lv_iload hx hb dL_law_3101 (lv_at hl 1 rfl) ?_
          refine lv_icmp_eq (tgt := 3108) hx hb dL_law_3103 (by decide) (fun c_3 => ?_) (fun c_3 => ?_)
          · refine lv_iload hx hb dL_law_3108 (lv_at hl 1 rfl) ?_
            refine lv_if_ne (tgt := 3125) hx hb dL_law_3110 (by decide) (fun c_4 => ?_) (fun c_4 => ?_)
            · refine lv_goto (tgt := 4264) hx hb dL_law_3125 (by decide) ?_
              refine W.widen (k := 200 + 300) (n := 8000 + 2000) (Nat.le_of_ble_eq_true rfl) (Nat.le_of_ble_eq_true rfl) ?_
              exact kk _ _ _ hS (lv_sub hl [7, 2] rfl)
            · exact absurd c_4 (by decide)
          · exact absurd c_3 (by decide)
        · obtain ⟨c_5, c_6⟩ := hw
          exact absurd c_1 c_5
      · obtain ⟨rfl, rfl, hw⟩ := hw
        obtain ⟨c_7, c_8, c_9⟩ := hw
        exact absurd c_1 c_7
    · obtain ⟨c_10, c_11⟩ := hw
      obtain ⟨hP1, hD1⟩ := hB
      rw [ht1] at hP1
      obtain ⟨hP, hD⟩ := va_join (wr := [((a 200), f_m a g), ((a 201), .inr (5, [.int 0, .ref (g 100), .int 0])), ((a 206), .inr (5, [.int 0, .ref (g 100), .int 0]))]) (w1 := [(o1, .inl (g 1, 1, .inr (.inl (fun _ => 0))))]) hP hD [10, 0, 3, 6, 4, 5, 1, 2] [7, 8, 9] rfl rfl (by decide) (by decide) hk1 hFc hP1 hD1
      have hP : va_P D vwCl [((a 200), f_m a g), ((a 201), .inr (5, [.int 0, .ref (g 100), .int 0])), ((a 206), .inr (5, [.int 0, .ref (g 100), .int 0])), (o1, .inl (g 1, 1, .inr (.inl (fun _ => 0))))] H := hP
      have hD : va_D (va_A [] s.heap.size) [((a 200), f_m a g), ((a 201), .inr (5, [.int 0, .ref (g 100), .int 0])), ((a 206), .inr (5, [.int 0, .ref (g 100), .int 0])), (o1, .inl (g 1, 1, .inr (.inl (fun _ => 0))))] := hD
      refine lv_istore (lv' := [(6, .int 1), (0, .ref b), (1, .ref (a 0)), (2, .ref (a 200)), (3, .ref o1), (4, .ref o2), (5, .int 0)]) hx hb dL_law_3083 hl (by decide) rfl (fun ls hl => ?_)
      refine lv_aload_n hx hb dL_law_3085 rfl (lv_at hl 3 rfl) ?_
      refine lv_aload_n hx hb dL_law_3086 rfl (lv_at hl 1 rfl) ?_
      refine lv_iload hx hb dL_law_3087 (lv_at hl 6 rfl) ?_
      refine lv_iconst (v := 1) hx hb dL_law_3089 (by decide) ?_
      refine lv_iadd hx hb dL_law_3090 ?_
      refine r_topi (v := 1) (by decide) ?_
      refine va_sld hx hb hX hbl hbA hS (by unfold vp_in; decide) dL_law_3091 ?_
      refine r_topi (v := xs 1) (congrArg xs (by decide)) ?_
      have hPc : va_P D vwCl [((a 200), f_m a g), ((a 206), .inr (5, [.int 0, .ref (g 100), .int 0])), ((a 201), .inr (5, [.int 0, .ref (g 100), .int 0]))] _ := hP.sub (ws' := [((a 200), f_m a g), ((a 206), .inr (5, [.int 0, .ref (g 100), .int 0])), ((a 201), .inr (5, [.int 0, .ref (g 100), .int 0]))]) [0, 2, 1] rfl
      have hDc : va_D (fun q => z0 ≤ q) [((a 200), f_m a g), ((a 206), .inr (5, [.int 0, .ref (g 100), .int 0])), ((a 201), .inr (5, [.int 0, .ref (g 100), .int 0]))] := (hD.to hAz).pick (ws' := [((a 200), f_m a g), ((a 206), .inr (5, [.int 0, .ref (g 100), .int 0])), ((a 201), .inr (5, [.int 0, .ref (g 100), .int 0]))]) [0, 2, 1] (by decide) rfl
      have hFc := va_free (wc := [((a 200), f_m a g), ((a 206), .inr (5, [.int 0, .ref (g 100), .int 0])), ((a 201), .inr (5, [.int 0, .ref (g 100), .int 0]))]) hD hS hA [0, 2, 1] rfl
      refine va_calli (va_runV (As := [.int (xs 1)]) (rest := []) ⟨hx, hb, hml, hown, ht⟩ (k_X15_escapes l D g z0 _ a (xs 1)) (cwV 1 ht (gV w_1123 w_1125 w_1126 w_334 w_1124) rfl rfl rfl (by decide +kernel) (le2 rfl rfl)) ⟨PP.blind, va_recv hK.1 hP (ci := 21) (q0 := 0) rfl rfl, PP.mk' hK hZ hz hAz hS hPc hDc⟩ rfl rfl hl.1 rfl (lv_room (Nat.le_of_ble_eq_true rfl)) dL_law_3092 (le2 rfl rfl)) hS (fun q _ h => hFc q h) hFc (fun r u t H locs ht1 hvm hw hB hz1 hk1 hS => ?_)
      rcases hw with hw | hw
      · obtain ⟨rfl, rfl, hw⟩ := hw
        rcases hw with hw | hw
        · have c_12 := hw
          exact absurd c_12 c_10
        · obtain ⟨c_13, c_14⟩ := hw
          obtain ⟨hP1, hD1⟩ := hB
          rw [ht1] at hP1
          obtain ⟨hP, hD⟩ := va_join (wr := [(o1, .inl (g 1, 1, .inr (.inl (fun _ => 0))))]) (w1 := [((a 200), .inr (21, [.int 1, .ref (a 201), .ref (a 202), .ref (a 203), .ref (a 204), .ref (a 205), .ref (a 206), .int 0, .int 0, .int 0, .int 0, .ref (a 208), .ref (a 209), .ref (a 210), .ref (a 211), .ref (a 212), .int 4, .int 12, .int (-1), .int 0, .ref (g 200), .ref (a 213), .int 0, .int 97, .ref (a 214), .ref (a 215), .ref (a 207), .null, .int 0]))]) hP hD [0, 2, 1] [3] rfl rfl (by decide) (by decide) hk1 hFc hP1 hD1
          have hP : va_P D vwCl [(o1, .inl (g 1, 1, .inr (.inl (fun _ => 0)))), ((a 200), .inr (21, [.int 1, .ref (a 201), .ref (a 202), .ref (a 203), .ref (a 204), .ref (a 205), .ref (a 206), .int 0, .int 0, .int 0, .int 0, .ref (a 208), .ref (a 209), .ref (a 210), .ref (a 211), .ref (a 212), .int 4, .int 12, .int (-1), .int 0, .ref (g 200), .ref (a 213), .int 0, .int 97, .ref (a 214), .ref (a 215), .ref (a 207), .null, .int 0]))] H := hP
          have hD : va_D (va_A [] s.heap.size) [(o1, .inl (g 1, 1, .inr (.inl (fun _ => 0)))), ((a 200), .inr (21, [.int 1, .ref (a 201), .ref (a 202), .ref (a 203), .ref (a 204), .ref (a 205), .ref (a 206), .int 0, .int 0, .int 0, .int 0, .ref (a 208), .ref (a 209), .ref (a 210), .ref (a 211), .ref (a 212), .int 4, .int 12, .int (-1), .int 0, .ref (g 200), .ref (a 213), .int 0, .int 97, .ref (a 214), .ref (a 215), .ref (a 207), .null, .int 0]))] := hD
          refine lv_istore (lv' := [(7, .int 0), (6, .int 1), (0, .ref b), (1, .ref (a 0)), (2, .ref (a 200)), (3, .ref o1), (4, .ref o2), (5, .int 0)]) hx hb dL_law_3095 hl (by decide) rfl (fun ls hl => ?_)
          refine lv_aload_n hx hb dL_law_3097 rfl (lv_at hl 4 rfl) ?_
          have hPc : va_P D vwCl [((a 200), .inr (21, [.int 1, .ref (a 201), .ref (a 202), .ref (a 203), .ref (a 204), .ref (a 205), .ref (a 206), .int 0, .int 0, .int 0, .int 0, .ref (a 208), .ref (a 209), .ref (a 210), .ref (a 211), .ref (a 212), .int 4, .int 12, .int (-1), .int 0, .ref (g 200), .ref (a 213), .int 0, .int 97, .ref (a 214), .ref (a 215), .ref (a 207), .null, .int 0]))] _ := hP.sub (ws' := [((a 200), .inr (21, [.int 1, .ref (a 201), .ref (a 202), .ref (a 203), .ref (a 204), .ref (a 205), .ref (a 206), .int 0, .int 0, .int 0, .int 0, .ref (a 208), .ref (a 209), .ref (a 210), .ref (a 211), .ref (a 212), .int 4, .int 12, .int (-1), .int 0, .ref (g 200), .ref (a 213), .int 0, .int 97, .ref (a 214), .ref (a 215), .ref (a 207), .null, .int 0]))]) [1] rfl
          have hDc : va_D (fun q => z0 ≤ q) [((a 200), .inr (21, [.int 1, .ref (a 201), .ref (a 202), .ref (a 203), .ref (a 204), .ref (a 205), .ref (a 206), .int 0, .int 0, .int 0, .int 0, .ref (a 208), .ref (a 209), .ref (a 210), .ref (a 211), .ref (a 212), .int 4, .int 12, .int (-1), .int 0, .ref (g 200), .ref (a 213), .int 0, .int 97, .ref (a 214), .ref (a 215), .ref (a 207), .null, .int 0]))] := (hD.to hAz).pick (ws' := [((a 200), .inr (21, [.int 1, .ref (a 201), .ref (a 202), .ref (a 203), .ref (a 204), .ref (a 205), .ref (a 206), .int 0, .int 0, .int 0, .int 0, .ref (a 208), .ref (a 209), .ref (a 210), .ref (a 211), .ref (a 212), .int 4, .int 12, .int (-1), .int 0, .ref (g 200), .ref (a 213), .int 0, .int 97, .ref (a 214), .ref (a 215), .ref (a 207), .null, .int 0]))]) [1] (by decide) rfl
          have hFc := va_free (wc := [((a 200), .inr (21, [.int 1, .ref (a 201), .ref (a 202), .ref (a 203), .ref (a 204), .ref (a 205), .ref (a 206), .int 0, .int 0, .int 0, .int 0, .ref (a 208), .ref (a 209), .ref (a 210), .ref (a 211), .ref (a 212), .int 4, .int 12, .int (-1), .int 0, .ref (g 200), .ref (a 213), .int 0, .int 97, .ref (a 214), .ref (a 215), .ref (a 207), .null, .int 0]))]) hD hS hA [1] rfl
          refine va_calli (va_runV (As := []) (rest := []) ⟨hx, hb, hml, hown, ht⟩ (k_X15_thrown_v2 l D g z0 _ a) (cwV 0 ht (gV w_772 w_774 w_775 w_334 w_773) rfl rfl rfl (by decide +kernel) (le2 rfl rfl)) ⟨PP.blind, va_recv hK.1 hP (ci := 21) (q0 := 1) rfl rfl, PP.mk' hK hZ hz hAz hS hPc hDc⟩ rfl rfl hl.1 rfl (lv_room (Nat.le_of_ble_eq_true rfl)) dL_law_3098 (le2 rfl rfl)) hS (fun q _ h => hFc q h) hFc (fun r u t H locs ht1 hvm hw hB hz1 hk1 hS => ?_)
          obtain ⟨rfl, hw⟩ := hw
          obtain ⟨hP1, hD1⟩ := hB
          rw [ht1] at hP1
          obtain ⟨hP, hD⟩ := va_join (wr := [(o1, .inl (g 1, 1, .inr (.inl (fun _ => 0))))]) (w1 := [((a 200), .inr (21, [.int 1, .ref (a 201), .ref (a 202), .ref (a 203), .ref (a 204), .ref (a 205), .ref (a 206), .int 0, .int 0, .int 0, .int 0, .ref (a 208), .ref (a 209), .ref (a 210), .ref (a 211), .ref (a 212), .int 4, .int 12, .int (-1), .int 0, .ref (g 200), .ref (a 213), .int 0, .int 97, .ref (a 214), .ref (a 215), .ref (a 207), .null, .int 0]))]) hP hD [1] [0] rfl rfl (by decide) (by decide) hk1 hFc hP1 hD1
          have hP : va_P D vwCl [(o1, .inl (g 1, 1, .inr (.inl (fun _ => 0)))), ((a 200), .inr (21, [.int 1, .ref (a 201), .ref (a 202), .ref (a 203), .ref (a 204), .ref (a 205), .ref (a 206), .int 0, .int 0, .int 0, .int 0, .ref (a 208), .ref (a 209), .ref (a 210), .ref (a 211), .ref (a 212), .int 4, .int 12, .int (-1), .int 0, .ref (g 200), .ref (a 213), .int 0, .int 97, .ref (a 214), .ref (a 215), .ref (a 207), .null, .int 0]))] H := hP
          have hD : va_D (va_A [] s.heap.size) [(o1, .inl (g 1, 1, .inr (.inl (fun _ => 0)))), ((a 200), .inr (21, [.int 1, .ref (a 201), .ref (a 202), .ref (a 203), .ref (a 204), .ref (a 205), .ref (a 206), .int 0, .int 0, .int 0, .int 0, .ref (a 208), .ref (a 209), .ref (a 210), .ref (a 211), .ref (a 212), .int 4, .int 12, .int (-1), .int 0, .ref (g 200), .ref (a 213), .int 0, .int 97, .ref (a 214), .ref (a 215), .ref (a 207), .null, .int 0]))] := hD
          refine lv_iload hx hb dL_law_3101 (lv_at hl 1 rfl) ?_
          refine lv_icmp_eq (tgt := 3108) hx hb dL_law_3103 (by decide) (fun c_15 => ?_) (fun c_15 => ?_)
          · refine lv_iload hx hb dL_law_3108 (lv_at hl 1 rfl) ?_
            refine lv_if_ne (tgt := 3125) hx hb dL_law_3110 (by decide) (fun c_16 => ?_) (fun c_16 => ?_)
            · refine lv_goto (tgt := 4264) hx hb dL_law_3125 (by decide) ?_
              refine W.widen (k := 200 + 300) (n := 8000 + 2000) (Nat.le_of_ble_eq_true rfl) (Nat.le_of_ble_eq_true rfl) ?_
              exact kk _ _ _ hS (lv_sub hl [7, 2] rfl)
            · exact absurd c_16 (by decide)
          · exact absurd c_15 (by decide)
      · obtain ⟨rfl, rfl, hw⟩ := hw
        obtain ⟨c_17, c_18, c_19⟩ := hw
        exact absurd (Int.le_trans (lo_nle c_11) (up_nlt c_18)) (by decide)
  · obtain ⟨rfl, hw⟩ := hw
    obtain ⟨c_20, c_21⟩ := hw
    obtain ⟨hP1, hD1⟩ := hB
    rw [ht1] at hP1
    obtain ⟨hP, hD⟩ := va_join (wr := [((a 200), f_m a g), ((a 201), .inr (5, [.int 0, .ref (g 100), .int 0])), ((a 206), .inr (5, [.int 0, .ref (g 100), .int 0]))]) (w1 := [(o1, .inl (g 1, 1, .inr (.inl (fun _ => 0))))]) hP hD [10, 0, 3, 6, 4, 5, 1, 2] [7, 8, 9] rfl rfl (by decide) (by decide) hk1 hFc hP1 hD1
    have hP : va_P D vwCl [((a 200), f_m a g), ((a 201), .inr (5, [.int 0, .ref (g 100), .int 0])), ((a 206), .inr (5, [.int 0, .ref (g 100), .int 0])), (o1, .inl (g 1, 1, .inr (.inl (fun _ => 0))))] H := hP
    have hD : va_D (va_A [] s.heap.size) [((a 200), f_m a g), ((a 201), .inr (5, [.int 0, .ref (g 100), .int 0])), ((a 206), .inr (5, [.int 0, .ref (g 100), .int 0])), (o1, .inl (g 1, 1, .inr (.inl (fun _ => 0))))] := hD
    refine lv_istore (lv' := [(6, .int 0), (0, .ref b), (1, .ref (a 0)), (2, .ref (a 200)), (3, .ref o1), (4, .ref o2), (5, .int 0)]) hx hb dL_law_3083 hl (by decide) rfl (fun ls hl => ?_)
    refine lv_aload_n hx hb dL_law_3085 rfl (lv_at hl 3 rfl) ?_
    refine lv_aload_n hx hb dL_law_3086 rfl (lv_at hl 1 rfl) ?_
    refine lv_iload hx hb dL_law_3087 (lv_at hl 6 rfl) ?_
    refine lv_iconst (v := 1) hx hb dL_law_3089 (by decide) ?_
    refine lv_iadd hx hb dL_law_3090 ?_
    refine r_topi (v := 1) (by decide) ?_
    refine va_sld hx hb hX hbl hbA hS (by unfold vp_in; decide) dL_law_3091 ?_
    refine r_topi (v := xs 1) (congrArg xs (by decide)) ?_
    have hPc : va_P D vwCl [((a 200), f_m a g), ((a 206), .inr (5, [.int 0, .ref (g 100), .int 0])), ((a 201), .inr (5, [.int 0, .ref (g 100), .int 0]))] _ := hP.sub (ws' := [((a 200), f_m a g), ((a 206), .inr (5, [.int 0, .ref (g 100), .int 0])), ((a 201), .inr (5, [.int 0, .ref (g 100), .int 0]))]) [0, 2, 1] rfl
    have hDc : va_D (fun q => z0 ≤ q) [((a 200), f_m a g), ((a 206), .inr (5, [.int 0, .ref (g 100), .int 0])), ((a 201), .inr (5, [.int 0, .ref (g 100), .int 0]))] := (hD.to hAz).pick (ws' := [((a 200), f_m a g), ((a 206), .inr (5, [.int 0, .ref (g 100), .int 0])), ((a 201), .inr (5, [.int 0, .ref (g 100), .int 0]))]) [0, 2, 1] (by decide) rfl
    have hFc := va_free (wc := [((a 200), f_m a g), ((a 206), .inr (5, [.int 0, .ref (g 100), .int 0])), ((a 201), .inr (5, [.int 0, .ref (g 100), .int 0]))]) hD hS hA [0, 2, 1] rfl
    refine va_calli (va_runV (As := [.int (xs 1)]) (rest := []) ⟨hx, hb, hml, hown, ht⟩ (k_X15_escapes l D g z0 _ a (xs 1)) (cwV 1 ht (gV w_1123 w_1125 w_1126 w_334 w_1124) rfl rfl rfl (by decide +kernel) (le2 rfl rfl)) ⟨PP.blind, va_recv hK.1 hP (ci := 21) (q0 := 0) rfl rfl, PP.mk' hK hZ hz hAz hS hPc hDc⟩ rfl rfl hl.1 rfl (lv_room (Nat.le_of_ble_eq_true rfl)) dL_law_3092 (le2 rfl rfl)) hS (fun q _ h => hFc q h) hFc (fun r u t H locs ht1 hvm hw hB hz1 hk1 hS => ?_)
    rcases hw with hw | hw
    · obtain ⟨rfl, rfl, hw⟩ := hw
      rcases hw with hw | hw
      · have c_22 := hw
        exact absurd c_22 c_20
      · obtain ⟨c_23, c_24⟩ := hw
        exact absurd (Int.le_trans (lo_lt c_24) (up_le c_21)) (by decide)
    · obtain ⟨rfl, rfl, hw⟩ := hw
      obtain ⟨c_25, c_26, c_27⟩ := hw
      obtain ⟨hP1, hD1⟩ := hB
      rw [ht1] at hP1
      obtain ⟨hP, hD⟩ := va_join (wr := [(o1, .inl (g 1, 1, .inr (.inl (fun _ => 0))))]) (w1 := [((a 200), f_m a g)]) hP hD [0, 2, 1] [3] rfl rfl (by decide) (by decide) hk1 hFc hP1 hD1
      have hP : va_P D vwCl [(o1, .inl (g 1, 1, .inr (.inl (fun _ => 0)))), ((a 200), f_m a g)] H := hP
      have hD : va_D (va_A [] s.heap.size) [(o1, .inl (g 1, 1, .inr (.inl (fun _ => 0)))), ((a 200), f_m a g)] := hD
      refine lv_istore (lv' := [(7, .int 0), (6, .int 0), (0, .ref b), (1, .ref (a 0)), (2, .ref (a 200)), (3, .ref o1), (4, .ref o2), (5, .int 0)]) hx hb dL_law_3095 hl (by decide) rfl (fun ls hl => ?_)
      refine lv_aload_n hx hb dL_law_3097 rfl (lv_at hl 4 rfl) ?_
      have hPc : va_P D vwCl [((a 200), f_m a g)] _ := hP.sub (ws' := [((a 200), f_m a g)]) [1] rfl
      have hDc : va_D (fun q => z0 ≤ q) [((a 200), f_m a g)] := (hD.to hAz).pick (ws' := [((a 200), f_m a g)]) [1] (by decide) rfl
      have hFc := va_free (wc := [((a 200), f_m a g)]) hD hS hA [1] rfl
      refine va_calli (va_runV (As := []) (rest := []) ⟨hx, hb, hml, hown, ht⟩ (k_X15_thrown l D g z0 _ a) (cwV 0 ht (gV w_772 w_774 w_775 w_334 w_773) rfl rfl rfl (by decide +kernel) (le2 rfl rfl)) ⟨PP.blind, va_recv hK.1 hP (ci := 21) (q0 := 1) rfl rfl, PP.mk' hK hZ hz hAz hS hPc hDc⟩ rfl rfl hl.1 rfl (lv_room (Nat.le_of_ble_eq_true rfl)) dL_law_3098 (le2 rfl rfl)) hS (fun q _ h => hFc q h) hFc (fun r u t H locs ht1 hvm hw hB hz1 hk1 hS => ?_)
      obtain ⟨rfl, hw⟩ := hw
      obtain ⟨hP1, hD1⟩ := hB
      rw [ht1] at hP1
      obtain ⟨hP, hD⟩ := va_join (wr := [(o1, .inl (g 1, 1, .inr (.inl (fun _ => 0))))]) (w1 := [((a 200), f_m a g)]) hP hD [1] [0] rfl rfl (by decide) (by decide) hk1 hFc hP1 hD1
      have hP : va_P D vwCl [(o1, .inl (g 1, 1, .inr (.inl (fun _ => 0)))), ((a 200), f_m a g)] H := hP
      have hD : va_D (va_A [] s.heap.size) [(o1, .inl (g 1, 1, .inr (.inl (fun _ => 0)))), ((a 200), f_m a g)] := hD
      refine lv_iload hx hb dL_law_3101 (lv_at hl 1 rfl) ?_
      refine lv_icmp_eq (tgt := 3108) hx hb dL_law_3103 (by decide) (fun c_28 => ?_) (fun c_28 => ?_)
      · refine lv_iload hx hb dL_law_3108 (lv_at hl 1 rfl) ?_
        refine lv_if_ne (tgt := 3125) hx hb dL_law_3110 (by decide) (fun c_29 => ?_) (fun c_29 => ?_)
        · exact absurd c_29 (by decide)
        · refine lv_aload_n hx hb dL_law_3113 rfl (lv_at hl 5 rfl) ?_
          refine lv_iconst (v := 0) hx hb dL_law_3114 (by decide) ?_
          refine va_lald hx hb hK.1 hP 0 1 rfl rfl (by unfold vp_in; decide) dL_law_3115 ?_
          refine r_topl (v := 0) (by decide) ?_
          refine lv_iload hx hb dL_law_3116 (lv_at hl 0 rfl) ?_
          refine lv_i2l (v := 0) hx hb dL_law_3118 (by decide) ?_
          refine W.lcmp hx hb dL_law_3119 ?_
          refine r_topi (v := 0) (by decide) ?_
          refine lv_if_eq (tgt := 3125) hx hb dL_law_3120 (by decide) (fun c_30 => ?_) (fun c_30 => ?_)
          · refine lv_goto (tgt := 4264) hx hb dL_law_3125 (by decide) ?_
            refine W.widen (k := 200 + 300) (n := 8000 + 2000) (Nat.le_of_ble_eq_true rfl) (Nat.le_of_ble_eq_true rfl) ?_
            exact kk _ _ _ hS (lv_sub hl [7, 2] rfl)
          · exact absurd c_30 (by decide)
      · exact absurd c_28 (by decide)
set_option maxHeartbeats 4000000 in
set_option maxRecDepth 100000 in
theorem lw_case_53 {p : Program} {l : Launch} {e : Env} {s : State} {m : MethodId} {below : List Frame} {meth : Method} {c : Code} {H : Heap} {locs : List Loc} {ls : Array Slot} {Q : State → Prop} {D : va_G} {g : Nat → ClassId} {z0 b : Nat} {xs : Nat → Int32} {a : Nat → Nat} {o1 o2 : Nat} (hfl : l.stackTraces = false) (hx : p.tables.exec = Jvm.exec) (hb : c.code = cL_law) (hml : c.maxLocals = 9) (hown : s.vm.findClass RL = some m.cls) (ht : ∀ w ∈ TG, w.before #[Value.ref b] s = true) (hX : va_X b 6 xs s s.heap) (hbl : b < s.heap.size) (hbA : ¬ va_A [] s.heap.size b) (hK : KK D g s) (hZ : ZZ g z0 s) (hz : z0 ≤ s.heap.size) (hAz : ∀ q, va_A [] s.heap.size q → z0 ≤ q) (hP : va_P D vwCl (lwW a g o1 o2) H) (hD : va_D (va_A [] s.heap.size) (lwW a g o1 o2)) (hS : va_S (va_A [] s.heap.size) s.heap H locs) (hl : lv_has ls 9 [(0, .ref b), (1, .ref (a 0)), (2, .ref (a 200)), (3, .ref o1), (4, .ref o2), (5, .int 0)])
    (kk : ∀ (H : Heap) (locs : List Loc) (ls : Array Slot), va_S (va_A [] s.heap.size) s.heap H locs → lv_has ls 9 [(5, .int 0), (0, .ref b)] → W p l e room_1 s m #[Value.ref b] below meth c H locs (200 + 300) (8000 + 2000) Q (F0 m 4264 ls [])) :
    W p l e room_1 s m #[Value.ref b] below meth c H locs 200 8000 Q (F0 m 3186 ls []) := by
  have hA : ∀ q : Nat, s.heap.size ≤ q → va_A [] s.heap.size q := Anw
  have hP := hP.sub (ws' := [((a 0), f_x a), ((a 9), f_memory a), ((a 200), f_m a g)]) [0, 18, 26] rfl
  have hD := hD.sub (ws' := [((a 0), f_x a), ((a 9), f_memory a), ((a 200), f_m a g)]) [0, 18, 26] (by decide) rfl
  refine lv_aload_n hx hb dL_law_3186 rfl (lv_at hl 1 rfl) ?_
  have hPc : va_P D vwCl [((a 0), f_x a), ((a 9), f_memory a)] _ := hP.sub (ws' := [((a 0), f_x a), ((a 9), f_memory a)]) [0, 1] rfl
  have hDc : va_D (fun q => z0 ≤ q) [((a 0), f_x a), ((a 9), f_memory a)] := (hD.to hAz).pick (ws' := [((a 0), f_x a), ((a 9), f_memory a)]) [0, 1] (by decide) rfl
  have hFc := va_free (wc := [((a 0), f_x a), ((a 9), f_memory a)]) hD hS hA [0, 1] rfl
  refine va_calli (va_runV (As := []) (rest := []) ⟨hx, hb, hml, hown, ht⟩ (k_X11_eraseMarch l D g z0 _ a) (cwV 0 ht (gV w_1127 w_1129 w_1130 w_31 w_1128) rfl rfl rfl (by decide +kernel) (le2 rfl rfl)) ⟨PP.blind, va_recv hK.1 hP (ci := 17) (q0 := 0) rfl rfl, PP.mk' hK hZ hz hAz hS hPc hDc⟩ rfl rfl hl.1 rfl (lv_room (Nat.le_of_ble_eq_true rfl)) dL_law_3187 (le2 rfl rfl)) hS (fun q _ h => hFc q h) hFc (fun r u t H locs ht1 hvm hw hB hz1 hk1 hS => ?_)
  obtain ⟨rfl, hw⟩ := hw
  obtain ⟨hP1, hD1⟩ := hB
  rw [ht1] at hP1
  obtain ⟨hP, hD⟩ := va_join (wr := [((a 200), f_m a g)]) (w1 := []) hP hD [0, 1] [2] rfl rfl (by decide) (by decide) hk1 hFc hP1 hD1
  have hP : va_P D vwCl [((a 200), f_m a g)] H := hP
  have hD : va_D (va_A [] s.heap.size) [((a 200), f_m a g)] := hD
  refine lv_aload_n hx hb dL_law_3190 rfl (lv_at hl 2 rfl) ?_
  have hPc : va_P D vwCl [((a 200), f_m a g)] _ := hP.sub (ws' := [((a 200), f_m a g)]) [0] rfl
  have hDc : va_D (fun q => z0 ≤ q) [((a 200), f_m a g)] := (hD.to hAz).pick (ws' := [((a 200), f_m a g)]) [0] (by decide) rfl
  have hFc := va_free (wc := [((a 200), f_m a g)]) hD hS hA [0] rfl
  refine va_calli (va_runV (As := []) (rest := [.int 0]) ⟨hx, hb, hml, hown, ht⟩ (k_X15_eraseMarch l D g z0 _ a) (cwV 0 ht (gV w_1131 w_1133 w_1134 w_334 w_1132) rfl rfl rfl (by decide +kernel) (le2 rfl rfl)) ⟨PP.blind, va_recv hK.1 hP (ci := 21) (q0 := 0) rfl rfl, PP.mk' hK hZ hz hAz hS hPc hDc⟩ rfl rfl hl.1 rfl (lv_room (Nat.le_of_ble_eq_true rfl)) dL_law_3191 (le2 rfl rfl)) hS (fun q _ h => hFc q h) hFc (fun r u t H locs ht1 hvm hw hB hz1 hk1 hS => ?_)
  obtain ⟨rfl, hw⟩ := hw
  obtain ⟨hP1, hD1⟩ := hB
  rw [ht1] at hP1
  obtain ⟨hP, hD⟩ := va_join (wr := []) (w1 := [((a 200), f_m a g)]) hP hD [0] [] rfl rfl (by decide) (by decide) hk1 hFc hP1 hD1
  have hP : va_P D vwCl [((a 200), f_m a g)] H := hP
  have hD : va_D (va_A [] s.heap.size) [((a 200), f_m a g)] := hD
  refine lv_icmp_eq (tgt := 4264) hx hb dL_law_3194 (by decide) (fun c_1 => ?_) (fun c_1 => ?_)
  · refine W.widen (k := 200 + 300) (n := 8000 + 2000) (Nat.le_of_ble_eq_true rfl) (Nat.le_of_ble_eq_true rfl) ?_
    exact kk _ _ _ hS (lv_sub hl [5, 0] rfl)
  · exact absurd c_1 (by decide)
set_option maxHeartbeats 4000000 in
set_option maxRecDepth 100000 in
theorem lw_case_54 {p : Program} {l : Launch} {e : Env} {s : State} {m : MethodId} {below : List Frame} {meth : Method} {c : Code} {H : Heap} {locs : List Loc} {ls : Array Slot} {Q : State → Prop} {D : va_G} {g : Nat → ClassId} {z0 b : Nat} {xs : Nat → Int32} {a : Nat → Nat} {o1 o2 : Nat} (hfl : l.stackTraces = false) (hx : p.tables.exec = Jvm.exec) (hb : c.code = cL_law) (hml : c.maxLocals = 9) (hown : s.vm.findClass RL = some m.cls) (ht : ∀ w ∈ TG, w.before #[Value.ref b] s = true) (hX : va_X b 6 xs s s.heap) (hbl : b < s.heap.size) (hbA : ¬ va_A [] s.heap.size b) (hK : KK D g s) (hZ : ZZ g z0 s) (hz : z0 ≤ s.heap.size) (hAz : ∀ q, va_A [] s.heap.size q → z0 ≤ q) (hP : va_P D vwCl (lwW a g o1 o2) H) (hD : va_D (va_A [] s.heap.size) (lwW a g o1 o2)) (hS : va_S (va_A [] s.heap.size) s.heap H locs) (hl : lv_has ls 9 [(0, .ref b), (1, .ref (a 0)), (2, .ref (a 200)), (3, .ref o1), (4, .ref o2), (5, .int 0)])
    (kk : ∀ (H : Heap) (locs : List Loc) (ls : Array Slot), va_S (va_A [] s.heap.size) s.heap H locs → lv_has ls 9 [(5, .int 0), (0, .ref b)] → W p l e room_1 s m #[Value.ref b] below meth c H locs (200 + 300) (8000 + 2000) Q (F0 m 4264 ls [])) :
    W p l e room_1 s m #[Value.ref b] below meth c H locs 200 8000 Q (F0 m 3199 ls []) := by
  have hA : ∀ q : Nat, s.heap.size ≤ q → va_A [] s.heap.size q := Anw
  have hP := hP.sub (ws' := [((a 0), f_x a), ((a 9), f_memory a), ((a 200), f_m a g)]) [0, 18, 26] rfl
  have hD := hD.sub (ws' := [((a 0), f_x a), ((a 9), f_memory a), ((a 200), f_m a g)]) [0, 18, 26] (by decide) rfl
  refine lv_aload_n hx hb dL_law_3199 rfl (lv_at hl 1 rfl) ?_
  have hPc : va_P D vwCl [((a 0), f_x a), ((a 9), f_memory a)] _ := hP.sub (ws' := [((a 0), f_x a), ((a 9), f_memory a)]) [0, 1] rfl
  have hDc : va_D (fun q => z0 ≤ q) [((a 0), f_x a), ((a 9), f_memory a)] := (hD.to hAz).pick (ws' := [((a 0), f_x a), ((a 9), f_memory a)]) [0, 1] (by decide) rfl
  have hFc := va_free (wc := [((a 0), f_x a), ((a 9), f_memory a)]) hD hS hA [0, 1] rfl
  refine va_calli (va_runV (As := []) (rest := []) ⟨hx, hb, hml, hown, ht⟩ (k_X11_isRight l D g z0 _ a) (cwV 0 ht (gV w_1135 w_1137 w_1138 w_31 w_1136) rfl rfl rfl (by decide +kernel) (le2 rfl rfl)) ⟨PP.blind, va_recv hK.1 hP (ci := 17) (q0 := 0) rfl rfl, PP.mk' hK hZ hz hAz hS hPc hDc⟩ rfl rfl hl.1 rfl (lv_room (Nat.le_of_ble_eq_true rfl)) dL_law_3200 (le2 rfl rfl)) hS (fun q _ h => hFc q h) hFc (fun r u t H locs ht1 hvm hw hB hz1 hk1 hS => ?_)
  obtain ⟨rfl, hw⟩ := hw
  obtain ⟨hP1, hD1⟩ := hB
  rw [ht1] at hP1
  obtain ⟨hP, hD⟩ := va_join (wr := [((a 200), f_m a g)]) (w1 := []) hP hD [0, 1] [2] rfl rfl (by decide) (by decide) hk1 hFc hP1 hD1
  have hP : va_P D vwCl [((a 200), f_m a g)] H := hP
  have hD : va_D (va_A [] s.heap.size) [((a 200), f_m a g)] := hD
  refine lv_aload_n hx hb dL_law_3203 rfl (lv_at hl 2 rfl) ?_
  have hPc : va_P D vwCl [((a 200), f_m a g)] _ := hP.sub (ws' := [((a 200), f_m a g)]) [0] rfl
  have hDc : va_D (fun q => z0 ≤ q) [((a 200), f_m a g)] := (hD.to hAz).pick (ws' := [((a 200), f_m a g)]) [0] (by decide) rfl
  have hFc := va_free (wc := [((a 200), f_m a g)]) hD hS hA [0] rfl
  refine va_calli (va_runV (As := []) (rest := [.int 0]) ⟨hx, hb, hml, hown, ht⟩ (k_X15_isRight l D g z0 _ a) (cwV 0 ht (gV w_1139 w_1141 w_1142 w_334 w_1140) rfl rfl rfl (by decide +kernel) (le2 rfl rfl)) ⟨PP.blind, va_recv hK.1 hP (ci := 21) (q0 := 0) rfl rfl, PP.mk' hK hZ hz hAz hS hPc hDc⟩ rfl rfl hl.1 rfl (lv_room (Nat.le_of_ble_eq_true rfl)) dL_law_3204 (le2 rfl rfl)) hS (fun q _ h => hFc q h) hFc (fun r u t H locs ht1 hvm hw hB hz1 hk1 hS => ?_)
  obtain ⟨rfl, hw⟩ := hw
  obtain ⟨hP1, hD1⟩ := hB
  rw [ht1] at hP1
  obtain ⟨hP, hD⟩ := va_join (wr := []) (w1 := [((a 200), f_m a g)]) hP hD [0] [] rfl rfl (by decide) (by decide) hk1 hFc hP1 hD1
  have hP : va_P D vwCl [((a 200), f_m a g)] H := hP
  have hD : va_D (va_A [] s.heap.size) [((a 200), f_m a g)] := hD
  refine lv_icmp_eq (tgt := 4264) hx hb dL_law_3207 (by decide) (fun c_1 => ?_) (fun c_1 => ?_)
  · refine W.widen (k := 200 + 300) (n := 8000 + 2000) (Nat.le_of_ble_eq_true rfl) (Nat.le_of_ble_eq_true rfl) ?_
    exact kk _ _ _ hS (lv_sub hl [5, 0] rfl)
  · exact absurd c_1 (by decide)
set_option maxHeartbeats 4000000 in
set_option maxRecDepth 100000 in
theorem lw_case_56 {p : Program} {l : Launch} {e : Env} {s : State} {m : MethodId} {below : List Frame} {meth : Method} {c : Code} {H : Heap} {locs : List Loc} {ls : Array Slot} {Q : State → Prop} {D : va_G} {g : Nat → ClassId} {z0 b : Nat} {xs : Nat → Int32} {a : Nat → Nat} {o1 o2 : Nat} (hfl : l.stackTraces = false) (hx : p.tables.exec = Jvm.exec) (hb : c.code = cL_law) (hml : c.maxLocals = 9) (hown : s.vm.findClass RL = some m.cls) (ht : ∀ w ∈ TG, w.before #[Value.ref b] s = true) (hX : va_X b 6 xs s s.heap) (hbl : b < s.heap.size) (hbA : ¬ va_A [] s.heap.size b) (hK : KK D g s) (hZ : ZZ g z0 s) (hz : z0 ≤ s.heap.size) (hAz : ∀ q, va_A [] s.heap.size q → z0 ≤ q) (hP : va_P D vwCl (lwW a g o1 o2) H) (hD : va_D (va_A [] s.heap.size) (lwW a g o1 o2)) (hS : va_S (va_A [] s.heap.size) s.heap H locs) (hl : lv_has ls 9 [(0, .ref b), (1, .ref (a 0)), (2, .ref (a 200)), (3, .ref o1), (4, .ref o2), (5, .int 0)])
    (kk : ∀ (H : Heap) (locs : List Loc) (ls : Array Slot), va_S (va_A [] s.heap.size) s.heap H locs → lv_has ls 9 [(5, .int 0), (0, .ref b)] → W p l e room_1 s m #[Value.ref b] below meth c H locs (200 + 300) (8000 + 2000) Q (F0 m 4264 ls [])) :
    W p l e room_1 s m #[Value.ref b] below meth c H locs 200 8000 Q (F0 m 3325 ls []) := by
  have hA : ∀ q : Nat, s.heap.size ≤ q → va_A [] s.heap.size q := Anw
  have hP := hP.sub (ws' := [((a 0), f_x a), ((a 9), f_memory a), ((a 200), f_m a g), (o1, .inl (g 1, 1, .inr (.inl (fun _ => 0))))]) [0, 18, 26, 61] rfl
  have hD := hD.sub (ws' := [((a 0), f_x a), ((a 9), f_memory a), ((a 200), f_m a g), (o1, .inl (g 1, 1, .inr (.inl (fun _ => 0))))]) [0, 18, 26, 61] (by decide) rfl
  refine lv_aload_n hx hb dL_law_3325 rfl (lv_at hl 1 rfl) ?_
  refine lv_aload_n hx hb dL_law_3326 rfl (lv_at hl 0 rfl) ?_
  refine lv_iload hx hb dL_law_3327 (lv_at hl 5 rfl) ?_
  refine lv_iconst (v := 1) hx hb dL_law_3329 (by decide) ?_
  refine lv_iadd hx hb dL_law_3330 ?_
  refine r_topi (v := 1) (by decide) ?_
  refine va_sld hx hb hX hbl hbA hS (by unfold vp_in; decide) dL_law_3331 ?_
  refine r_topi (v := xs 1) (congrArg xs (by decide)) ?_
  refine lv_i2c (v := ((xs 1).toUInt32 % 65536).toInt32) hx hb dL_law_3332 rfl ?_
  refine lv_aload_n hx hb dL_law_3333 rfl (lv_at hl 3 rfl) ?_
  have hPc : va_P D vwCl [(o1, .inl (g 1, 1, .inr (.inl (fun _ => 0)))), ((a 0), f_x a), ((a 9), f_memory a)] _ := hP.sub (ws' := [(o1, .inl (g 1, 1, .inr (.inl (fun _ => 0)))), ((a 0), f_x a), ((a 9), f_memory a)]) [3, 0, 1] rfl
  have hDc : va_D (fun q => z0 ≤ q) [(o1, .inl (g 1, 1, .inr (.inl (fun _ => 0)))), ((a 0), f_x a), ((a 9), f_memory a)] := (hD.to hAz).pick (ws' := [(o1, .inl (g 1, 1, .inr (.inl (fun _ => 0)))), ((a 0), f_x a), ((a 9), f_memory a)]) [3, 0, 1] (by decide) rfl
  have hFc := va_free (wc := [(o1, .inl (g 1, 1, .inr (.inl (fun _ => 0)))), ((a 0), f_x a), ((a 9), f_memory a)]) hD hS hA [3, 0, 1] rfl
  refine va_calli (vx_runSW (As := [.ref (a 0), .int (((xs 1).toUInt32 % 65536).toInt32), .ref o1]) (rest := []) ⟨hx, hb, hml, hown, ht⟩ (k_L_marchCount l hfl D g z0 _ a (((xs 1).toUInt32 % 65536).toInt32) o1 (isC_i2c _)) (vx_cwSW 3 ht (gS w_1143 w_1145 w_767 w_1144) rfl rfl rfl (by decide +kernel) (le2 rfl rfl)) ⟨PP.blind, PP.mk' hK hZ hz hAz hS hPc hDc⟩ rfl rfl hl.1 rfl (lv_room (Nat.le_of_ble_eq_true rfl)) dL_law_3334 (le2 rfl rfl)) hS (fun q _ h => hFc q h) hFc (fun r u t H locs ht1 hvm hw hB hz1 hk1 hS => ?_)
  rcases hw with hw | hw
  · obtain ⟨rfl, hw⟩ := hw
    rcases hw with hw | hw | hw | hw | hw
    · have c_1 := hw
      obtain ⟨hP1, hD1⟩ := hB
      rw [ht1] at hP1
      obtain ⟨hP, hD⟩ := va_join (wr := [((a 200), f_m a g)]) (w1 := [(o1, .inl (g 1, 1, .inr (.inl (fun _ => 0))))]) hP hD [3, 0, 1] [2] rfl rfl (by decide) (by decide) hk1 hFc hP1 hD1
      have hP : va_P D vwCl [((a 200), f_m a g), (o1, .inl (g 1, 1, .inr (.inl (fun _ => 0))))] H := hP
      have hD : va_D (va_A [] s.heap.size) [((a 200), f_m a g), (o1, .inl (g 1, 1, .inr (.inl (fun _ => 0))))] := hD
      refine lv_istore (lv' := [(6, .int 2), (0, .ref b), (1, .ref (a 0)), (2, .ref (a 200)), (3, .ref o1), (4, .ref o2), (5, .int 0)]) hx hb dL_law_3337 hl (by decide) rfl (fun ls hl => ?_)
      refine lv_aload_n hx hb dL_law_3339 rfl (lv_at hl 3 rfl) ?_
      refine lv_aload_n hx hb dL_law_3340 rfl (lv_at hl 1 rfl) ?_
      refine lv_iload hx hb dL_law_3341 (lv_at hl 6 rfl) ?_
      refine lv_iconst (v := 1) hx hb dL_law_3343 (by decide) ?_
      refine lv_iadd hx hb dL_law_3344 ?_
      refine r_topi (v := 1) (by decide) ?_
      refine va_sld hx hb hX hbl hbA hS (by unfold vp_in; decide) dL_law_3345 ?_
      refine r_topi (v := xs 1) (congrArg xs (by decide)) ?_
      refine lv_i2c (v := ((xs 1).toUInt32 % 65536).toInt32) hx hb dL_law_3346 rfl ?_
      have hPc : va_P D vwCl [((a 200), f_m a g)] _ := hP.sub (ws' := [((a 200), f_m a g)]) [0] rfl
      have hDc : va_D (fun q => z0 ≤ q) [((a 200), f_m a g)] := (hD.to hAz).pick (ws' := [((a 200), f_m a g)]) [0] (by decide) rfl
      have hFc := va_free (wc := [((a 200), f_m a g)]) hD hS hA [0] rfl
      refine va_calli (va_runV (As := [.int (((xs 1).toUInt32 % 65536).toInt32)]) (rest := []) ⟨hx, hb, hml, hown, ht⟩ (k_X15_marchCount l D g z0 _ a (((xs 1).toUInt32 % 65536).toInt32) (isC_i2c _)) (cwV 1 ht (gV w_1146 w_1148 w_1149 w_334 w_1147) rfl rfl rfl (by decide +kernel) (le2 rfl rfl)) ⟨PP.blind, va_recv hK.1 hP (ci := 21) (q0 := 0) rfl rfl, PP.mk' hK hZ hz hAz hS hPc hDc⟩ rfl rfl hl.1 rfl (lv_room (Nat.le_of_ble_eq_true rfl)) dL_law_3347 (le2 rfl rfl)) hS (fun q _ h => hFc q h) hFc (fun r u t H locs ht1 hvm hw hB hz1 hk1 hS => ?_)
      rcases hw with hw | hw
      · obtain ⟨rfl, rfl, hw⟩ := hw
        rcases hw with hw | hw | hw
        · obtain ⟨c_2, c_3, c_4, c_5, c_6⟩ := hw
          exact absurd c_1 c_2
        · obtain ⟨c_7, c_8, c_9, c_10, c_11⟩ := hw
          exact absurd c_1 c_7
        · obtain ⟨c_12, c_13, c_14, c_15, c_16⟩ := hw
          exact absurd c_1 c_12
      · obtain ⟨rfl, rfl, hw⟩ := hw
        rcases hw with hw | hw | hw | hw | hw
        · have c_17 := hw
          exact absurd (c_1.symm.trans c_17) (by decide)
        · have c_18 := hw
          exact absurd (c_1.symm.trans c_18) (by decide)
        · have c_19 := hw
          exact absurd (c_1.symm.trans c_19) (by decide)
        · have c_20 := hw
          exact absurd (c_1.symm.trans c_20) (by decide)
        · have c_21 := hw
          obtain ⟨hP1, hD1⟩ := hB
          rw [ht1] at hP1
          obtain ⟨hP, hD⟩ := va_join (wr := [(o1, .inl (g 1, 1, .inr (.inl (fun _ => 0))))]) (w1 := [((a 200), .inr (21, [.int 2, .ref (a 201), .ref (a 202), .ref (a 203), .ref (a 204), .ref (a 205), .ref (a 206), .int 0, .int 0, .int 0, .int 0, .ref (a 208), .ref (a 209), .ref (a 210), .ref (a 211), .ref (a 212), .int 4, .int 12, .int (-1), .int 0, .ref (g 200), .ref (a 213), .int 0, .int 97, .ref (a 214), .ref (a 215), .ref (a 207), .null, .int 0]))]) hP hD [0] [1] rfl rfl (by decide) (by decide) hk1 hFc hP1 hD1
          have hP : va_P D vwCl [(o1, .inl (g 1, 1, .inr (.inl (fun _ => 0)))), ((a 200), .inr (21, [.int 2, .ref (a 201), .ref (a 202), .ref (a 203), .ref (a 204), .ref (a 205), .ref (a 206), .int 0, .int 0, .int 0, .int 0, .ref (a 208), .ref (a 209), .ref (a 210), .ref (a 211), .ref (a 212), .int 4, .int 12, .int (-1), .int 0, .ref (g 200), .ref (a 213), .int 0, .int 97, .ref (a 214), .ref (a 215), .ref (a 207), .null, .int 0]))] H := hP
          have hD : va_D (va_A [] s.heap.size) [(o1, .inl (g 1, 1, .inr (.inl (fun _ => 0)))), ((a 200), .inr (21, [.int 2, .ref (a 201), .ref (a 202), .ref (a 203), .ref (a 204), .ref (a 205), .ref (a 206), .int 0, .int 0, .int 0, .int 0, .ref (a 208), .ref (a 209), .ref (a 210), .ref (a 211), .ref (a 212), .int 4, .int 12, .int (-1), .int 0, .ref (g 200), .ref (a 213), .int 0, .int 97, .ref (a 214), .ref (a 215), .ref (a 207), .null, .int 0]))] := hD
          refine lv_istore (lv' := [(7, .int 0), (6, .int 2), (0, .ref b), (1, .ref (a 0)), (2, .ref (a 200)), (3, .ref o1), (4, .ref o2), (5, .int 0)]) hx hb dL_law_3350 hl (by decide) rfl (fun ls hl => ?_)
          refine lv_aload_n hx hb dL_law_3352 rfl (lv_at hl 4 rfl) ?_
          have hPc : va_P D vwCl [((a 200), .inr (21, [.int 2, .ref (a 201), .ref (a 202), .ref (a 203), .ref (a 204), .ref (a 205), .ref (a 206), .int 0, .int 0, .int 0, .int 0, .ref (a 208), .ref (a 209), .ref (a 210), .ref (a 211), .ref (a 212), .int 4, .int 12, .int (-1), .int 0, .ref (g 200), .ref (a 213), .int 0, .int 97, .ref (a 214), .ref (a 215), .ref (a 207), .null, .int 0]))] _ := hP.sub (ws' := [((a 200), .inr (21, [.int 2, .ref (a 201), .ref (a 202), .ref (a 203), .ref (a 204), .ref (a 205), .ref (a 206), .int 0, .int 0, .int 0, .int 0, .ref (a 208), .ref (a 209), .ref (a 210), .ref (a 211), .ref (a 212), .int 4, .int 12, .int (-1), .int 0, .ref (g 200), .ref (a 213), .int 0, .int 97, .ref (a 214), .ref (a 215), .ref (a 207), .null, .int 0]))]) [1] rfl
          have hDc : va_D (fun q => z0 ≤ q) [((a 200), .inr (21, [.int 2, .ref (a 201), .ref (a 202), .ref (a 203), .ref (a 204), .ref (a 205), .ref (a 206), .int 0, .int 0, .int 0, .int 0, .ref (a 208), .ref (a 209), .ref (a 210), .ref (a 211), .ref (a 212), .int 4, .int 12, .int (-1), .int 0, .ref (g 200), .ref (a 213), .int 0, .int 97, .ref (a 214), .ref (a 215), .ref (a 207), .null, .int 0]))] := (hD.to hAz).pick (ws' := [((a 200), .inr (21, [.int 2, .ref (a 201), .ref (a 202), .ref (a 203), .ref (a 204), .ref (a 205), .ref (a 206), .int 0, .int 0, .int 0, .int 0, .ref (a 208), .ref (a 209), .ref (a 210), .ref (a 211), .ref (a 212), .int 4, .int 12, .int (-1), .int 0, .ref (g 200), .ref (a 213), .int 0, .int 97, .ref (a 214), .ref (a 215), .ref (a 207), .null, .int 0]))]) [1] (by decide) rfl
          have hFc := va_free (wc := [((a 200), .inr (21, [.int 2, .ref (a 201), .ref (a 202), .ref (a 203), .ref (a 204), .ref (a 205), .ref (a 206), .int 0, .int 0, .int 0, .int 0, .ref (a 208), .ref (a 209), .ref (a 210), .ref (a 211), .ref (a 212), .int 4, .int 12, .int (-1), .int 0, .ref (g 200), .ref (a 213), .int 0, .int 97, .ref (a 214), .ref (a 215), .ref (a 207), .null, .int 0]))]) hD hS hA [1] rfl
          refine va_calli (va_runV (As := []) (rest := []) ⟨hx, hb, hml, hown, ht⟩ (k_X15_thrown_v1 l D g z0 _ a) (cwV 0 ht (gV w_772 w_774 w_775 w_334 w_773) rfl rfl rfl (by decide +kernel) (le2 rfl rfl)) ⟨PP.blind, va_recv hK.1 hP (ci := 21) (q0 := 1) rfl rfl, PP.mk' hK hZ hz hAz hS hPc hDc⟩ rfl rfl hl.1 rfl (lv_room (Nat.le_of_ble_eq_true rfl)) dL_law_3353 (le2 rfl rfl)) hS (fun q _ h => hFc q h) hFc (fun r u t H locs ht1 hvm hw hB hz1 hk1 hS => ?_)
          obtain ⟨rfl, hw⟩ := hw
          obtain ⟨hP1, hD1⟩ := hB
          rw [ht1] at hP1
          obtain ⟨hP, hD⟩ := va_join (wr := [(o1, .inl (g 1, 1, .inr (.inl (fun _ => 0))))]) (w1 := [((a 200), .inr (21, [.int 2, .ref (a 201), .ref (a 202), .ref (a 203), .ref (a 204), .ref (a 205), .ref (a 206), .int 0, .int 0, .int 0, .int 0, .ref (a 208), .ref (a 209), .ref (a 210), .ref (a 211), .ref (a 212), .int 4, .int 12, .int (-1), .int 0, .ref (g 200), .ref (a 213), .int 0, .int 97, .ref (a 214), .ref (a 215), .ref (a 207), .null, .int 0]))]) hP hD [1] [0] rfl rfl (by decide) (by decide) hk1 hFc hP1 hD1
          have hP : va_P D vwCl [(o1, .inl (g 1, 1, .inr (.inl (fun _ => 0)))), ((a 200), .inr (21, [.int 2, .ref (a 201), .ref (a 202), .ref (a 203), .ref (a 204), .ref (a 205), .ref (a 206), .int 0, .int 0, .int 0, .int 0, .ref (a 208), .ref (a 209), .ref (a 210), .ref (a 211), .ref (a 212), .int 4, .int 12, .int (-1), .int 0, .ref (g 200), .ref (a 213), .int 0, .int 97, .ref (a 214), .ref (a 215), .ref (a 207), .null, .int 0]))] H := hP
          have hD : va_D (va_A [] s.heap.size) [(o1, .inl (g 1, 1, .inr (.inl (fun _ => 0)))), ((a 200), .inr (21, [.int 2, .ref (a 201), .ref (a 202), .ref (a 203), .ref (a 204), .ref (a 205), .ref (a 206), .int 0, .int 0, .int 0, .int 0, .ref (a 208), .ref (a 209), .ref (a 210), .ref (a 211), .ref (a 212), .int 4, .int 12, .int (-1), .int 0, .ref (g 200), .ref (a 213), .int 0, .int 97, .ref (a 214), .ref (a 215), .ref (a 207), .null, .int 0]))] := hD
          refine lv_iload hx hb dL_law_3356 (lv_at hl 1 rfl) ?_
          refine lv_icmp_eq (tgt := 3363) hx hb dL_law_3358 (by decide) (fun c_22 => ?_) (fun c_22 => ?_)
          · refine lv_iload hx hb dL_law_3363 (lv_at hl 1 rfl) ?_
            refine lv_if_ne (tgt := 3380) hx hb dL_law_3365 (by decide) (fun c_23 => ?_) (fun c_23 => ?_)
            · refine lv_goto (tgt := 4264) hx hb dL_law_3380 (by decide) ?_
              refine W.widen (k := 200 + 300) (n := 8000 + 2000) (Nat.le_of_ble_eq_true rfl) (Nat.le_of_ble_eq_true rfl) ?_
              exact kk _ _ _ hS (lv_sub hl [7, 2] rfl)
            · exact absurd c_23 (by decide)
          · exact absurd c_22 (by decide)
    · obtain ⟨c_24, c_25⟩ := hw
      obtain ⟨hP1, hD1⟩ := hB
      rw [ht1] at hP1
      obtain ⟨hP, hD⟩ := va_join (wr := [((a 200), f_m a g)]) (w1 := [(o1, .inl (g 1, 1, .inr (.inl (fun _ => 0))))]) hP hD [3, 0, 1] [2] rfl rfl (by decide) (by decide) hk1 hFc hP1 hD1
      have hP : va_P D vwCl [((a 200), f_m a g), (o1, .inl (g 1, 1, .inr (.inl (fun _ => 0))))] H := hP
      have hD : va_D (va_A [] s.heap.size) [((a 200), f_m a g), (o1, .inl (g 1, 1, .inr (.inl (fun _ => 0))))] := hD
      refine lv_istore (lv' := [(6, .int 2), (0, .ref b), (1, .ref (a 0)), (2, .ref (a 200)), (3, .ref o1), (4, .ref o2), (5, .int 0)]) hx hb dL_law_3337 hl (by decide) rfl (fun ls hl => ?_)
      refine lv_aload_n hx hb dL_law_3339 rfl (lv_at hl 3 rfl) ?_
      refine lv_aload_n hx hb dL_law_3340 rfl (lv_at hl 1 rfl) ?_
      refine lv_iload hx hb dL_law_3341 (lv_at hl 6 rfl) ?_
      refine lv_iconst (v := 1) hx hb dL_law_3343 (by decide) ?_
      refine lv_iadd hx hb dL_law_3344 ?_
      refine r_topi (v := 1) (by decide) ?_
      refine va_sld hx hb hX hbl hbA hS (by unfold vp_in; decide) dL_law_3345 ?_
      refine r_topi (v := xs 1) (congrArg xs (by decide)) ?_
      refine lv_i2c (v := ((xs 1).toUInt32 % 65536).toInt32) hx hb dL_law_3346 rfl ?_
      have hPc : va_P D vwCl [((a 200), f_m a g)] _ := hP.sub (ws' := [((a 200), f_m a g)]) [0] rfl
      have hDc : va_D (fun q => z0 ≤ q) [((a 200), f_m a g)] := (hD.to hAz).pick (ws' := [((a 200), f_m a g)]) [0] (by decide) rfl
      have hFc := va_free (wc := [((a 200), f_m a g)]) hD hS hA [0] rfl
      refine va_calli (va_runV (As := [.int (((xs 1).toUInt32 % 65536).toInt32)]) (rest := []) ⟨hx, hb, hml, hown, ht⟩ (k_X15_marchCount l D g z0 _ a (((xs 1).toUInt32 % 65536).toInt32) (isC_i2c _)) (cwV 1 ht (gV w_1146 w_1148 w_1149 w_334 w_1147) rfl rfl rfl (by decide +kernel) (le2 rfl rfl)) ⟨PP.blind, va_recv hK.1 hP (ci := 21) (q0 := 0) rfl rfl, PP.mk' hK hZ hz hAz hS hPc hDc⟩ rfl rfl hl.1 rfl (lv_room (Nat.le_of_ble_eq_true rfl)) dL_law_3347 (le2 rfl rfl)) hS (fun q _ h => hFc q h) hFc (fun r u t H locs ht1 hvm hw hB hz1 hk1 hS => ?_)
      rcases hw with hw | hw
      · obtain ⟨rfl, rfl, hw⟩ := hw
        rcases hw with hw | hw | hw
        · obtain ⟨c_26, c_27, c_28, c_29, c_30⟩ := hw
          exact absurd c_25 c_27
        · obtain ⟨c_31, c_32, c_33, c_34, c_35⟩ := hw
          exact absurd c_25 c_32
        · obtain ⟨c_36, c_37, c_38, c_39, c_40⟩ := hw
          exact absurd c_25 c_37
      · obtain ⟨rfl, rfl, hw⟩ := hw
        rcases hw with hw | hw | hw | hw | hw
        · have c_41 := hw
          exact absurd (c_25.symm.trans c_41) (by decide)
        · have c_42 := hw
          exact absurd (c_25.symm.trans c_42) (by decide)
        · have c_43 := hw
          exact absurd (c_25.symm.trans c_43) (by decide)
        · have c_44 := hw
          obtain ⟨hP1, hD1⟩ := hB
          rw [ht1] at hP1
          obtain ⟨hP, hD⟩ := va_join (wr := [(o1, .inl (g 1, 1, .inr (.inl (fun _ => 0))))]) (w1 := [((a 200), .inr (21, [.int 2, .ref (a 201), .ref (a 202), .ref (a 203), .ref (a 204), .ref (a 205), .ref (a 206), .int 0, .int 0, .int 0, .int 0, .ref (a 208), .ref (a 209), .ref (a 210), .ref (a 211), .ref (a 212), .int 4, .int 12, .int (-1), .int 0, .ref (g 200), .ref (a 213), .int 0, .int 97, .ref (a 214), .ref (a 215), .ref (a 207), .null, .int 0]))]) hP hD [0] [1] rfl rfl (by decide) (by decide) hk1 hFc hP1 hD1
          have hP : va_P D vwCl [(o1, .inl (g 1, 1, .inr (.inl (fun _ => 0)))), ((a 200), .inr (21, [.int 2, .ref (a 201), .ref (a 202), .ref (a 203), .ref (a 204), .ref (a 205), .ref (a 206), .int 0, .int 0, .int 0, .int 0, .ref (a 208), .ref (a 209), .ref (a 210), .ref (a 211), .ref (a 212), .int 4, .int 12, .int (-1), .int 0, .ref (g 200), .ref (a 213), .int 0, .int 97, .ref (a 214), .ref (a 215), .ref (a 207), .null, .int 0]))] H := hP
          have hD : va_D (va_A [] s.heap.size) [(o1, .inl (g 1, 1, .inr (.inl (fun _ => 0)))), ((a 200), .inr (21, [.int 2, .ref (a 201), .ref (a 202), .ref (a 203), .ref (a 204), .ref (a 205), .ref (a 206), .int 0, .int 0, .int 0, .int 0, .ref (a 208), .ref (a 209), .ref (a 210), .ref (a 211), .ref (a 212), .int 4, .int 12, .int (-1), .int 0, .ref (g 200), .ref (a 213), .int 0, .int 97, .ref (a 214), .ref (a 215), .ref (a 207), .null, .int 0]))] := hD
          refine lv_istore (lv' := [(7, .int 0), (6, .int 2), (0, .ref b), (1, .ref (a 0)), (2, .ref (a 200)), (3, .ref o1), (4, .ref o2), (5, .int 0)]) hx hb dL_law_3350 hl (by decide) rfl (fun ls hl => ?_)
          refine lv_aload_n hx hb dL_law_3352 rfl (lv_at hl 4 rfl) ?_
          have hPc : va_P D vwCl [((a 200), .inr (21, [.int 2, .ref (a 201), .ref (a 202), .ref (a 203), .ref (a 204), .ref (a 205), .ref (a 206), .int 0, .int 0, .int 0, .int 0, .ref (a 208), .ref (a 209), .ref (a 210), .ref (a 211), .ref (a 212), .int 4, .int 12, .int (-1), .int 0, .ref (g 200), .ref (a 213), .int 0, .int 97, .ref (a 214), .ref (a 215), .ref (a 207), .null, .int 0]))] _ := hP.sub (ws' := [((a 200), .inr (21, [.int 2, .ref (a 201), .ref (a 202), .ref (a 203), .ref (a 204), .ref (a 205), .ref (a 206), .int 0, .int 0, .int 0, .int 0, .ref (a 208), .ref (a 209), .ref (a 210), .ref (a 211), .ref (a 212), .int 4, .int 12, .int (-1), .int 0, .ref (g 200), .ref (a 213), .int 0, .int 97, .ref (a 214), .ref (a 215), .ref (a 207), .null, .int 0]))]) [1] rfl
          have hDc : va_D (fun q => z0 ≤ q) [((a 200), .inr (21, [.int 2, .ref (a 201), .ref (a 202), .ref (a 203), .ref (a 204), .ref (a 205), .ref (a 206), .int 0, .int 0, .int 0, .int 0, .ref (a 208), .ref (a 209), .ref (a 210), .ref (a 211), .ref (a 212), .int 4, .int 12, .int (-1), .int 0, .ref (g 200), .ref (a 213), .int 0, .int 97, .ref (a 214), .ref (a 215), .ref (a 207), .null, .int 0]))] := (hD.to hAz).pick (ws' := [((a 200), .inr (21, [.int 2, .ref (a 201), .ref (a 202), .ref (a 203), .ref (a 204), .ref (a 205), .ref (a 206), .int 0, .int 0, .int 0, .int 0, .ref (a 208), .ref (a 209), .ref (a 210), .ref (a 211), .ref (a 212), .int 4, .int 12, .int (-1), .int 0, .ref (g 200), .ref (a 213), .int 0, .int 97, .ref (a 214), .ref (a 215), .ref (a 207), .null, .int 0]))]) [1] (by decide) rfl
          have hFc := va_free (wc := [((a 200), .inr (21, [.int 2, .ref (a 201), .ref (a 202), .ref (a 203), .ref (a 204), .ref (a 205), .ref (a 206), .int 0, .int 0, .int 0, .int 0, .ref (a 208), .ref (a 209), .ref (a 210), .ref (a 211), .ref (a 212), .int 4, .int 12, .int (-1), .int 0, .ref (g 200), .ref (a 213), .int 0, .int 97, .ref (a 214), .ref (a 215), .ref (a 207), .null, .int 0]))]) hD hS hA [1] rfl
          refine va_calli (va_runV (As := []) (rest := []) ⟨hx, hb, hml, hown, ht⟩ (k_X15_thrown_v1 l D g z0 _ a) (cwV 0 ht (gV w_772 w_774 w_775 w_334 w_773) rfl rfl rfl (by decide +kernel) (le2 rfl rfl)) ⟨PP.blind, va_recv hK.1 hP (ci := 21) (q0 := 1) rfl rfl, PP.mk' hK hZ hz hAz hS hPc hDc⟩ rfl rfl hl.1 rfl (lv_room (Nat.le_of_ble_eq_true rfl)) dL_law_3353 (le2 rfl rfl)) hS (fun q _ h => hFc q h) hFc (fun r u t H locs ht1 hvm hw hB hz1 hk1 hS => ?_)
          obtain ⟨rfl, hw⟩ := hw
          obtain ⟨hP1, hD1⟩ := hB
          rw [ht1] at hP1
          obtain ⟨hP, hD⟩ := va_join (wr := [(o1, .inl (g 1, 1, .inr (.inl (fun _ => 0))))]) (w1 := [((a 200), .inr (21, [.int 2, .ref (a 201), .ref (a 202), .ref (a 203), .ref (a 204), .ref (a 205), .ref (a 206), .int 0, .int 0, .int 0, .int 0, .ref (a 208), .ref (a 209), .ref (a 210), .ref (a 211), .ref (a 212), .int 4, .int 12, .int (-1), .int 0, .ref (g 200), .ref (a 213), .int 0, .int 97, .ref (a 214), .ref (a 215), .ref (a 207), .null, .int 0]))]) hP hD [1] [0] rfl rfl (by decide) (by decide) hk1 hFc hP1 hD1
          have hP : va_P D vwCl [(o1, .inl (g 1, 1, .inr (.inl (fun _ => 0)))), ((a 200), .inr (21, [.int 2, .ref (a 201), .ref (a 202), .ref (a 203), .ref (a 204), .ref (a 205), .ref (a 206), .int 0, .int 0, .int 0, .int 0, .ref (a 208), .ref (a 209), .ref (a 210), .ref (a 211), .ref (a 212), .int 4, .int 12, .int (-1), .int 0, .ref (g 200), .ref (a 213), .int 0, .int 97, .ref (a 214), .ref (a 215), .ref (a 207), .null, .int 0]))] H := hP
          have hD : va_D (va_A [] s.heap.size) [(o1, .inl (g 1, 1, .inr (.inl (fun _ => 0)))), ((a 200), .inr (21, [.int 2, .ref (a 201), .ref (a 202), .ref (a 203), .ref (a 204), .ref (a 205), .ref (a 206), .int 0, .int 0, .int 0, .int 0, .ref (a 208), .ref (a 209), .ref (a 210), .ref (a 211), .ref (a 212), .int 4, .int 12, .int (-1), .int 0, .ref (g 200), .ref (a 213), .int 0, .int 97, .ref (a 214), .ref (a 215), .ref (a 207), .null, .int 0]))] := hD
          refine lv_iload hx hb dL_law_3356 (lv_at hl 1 rfl) ?_
          refine lv_icmp_eq (tgt := 3363) hx hb dL_law_3358 (by decide) (fun c_45 => ?_) (fun c_45 => ?_)
          · refine lv_iload hx hb dL_law_3363 (lv_at hl 1 rfl) ?_
            refine lv_if_ne (tgt := 3380) hx hb dL_law_3365 (by decide) (fun c_46 => ?_) (fun c_46 => ?_)
            · refine lv_goto (tgt := 4264) hx hb dL_law_3380 (by decide) ?_
              refine W.widen (k := 200 + 300) (n := 8000 + 2000) (Nat.le_of_ble_eq_true rfl) (Nat.le_of_ble_eq_true rfl) ?_
              exact kk _ _ _ hS (lv_sub hl [7, 2] rfl)
            · exact absurd c_46 (by decide)
          · exact absurd c_45 (by decide)
        · have c_47 := hw
          exact absurd c_47 c_24
    · obtain ⟨c_48, c_49, c_50⟩ := hw
      obtain ⟨hP1, hD1⟩ := hB
      rw [ht1] at hP1
      obtain ⟨hP, hD⟩ := va_join (wr := [((a 200), f_m a g)]) (w1 := [(o1, .inl (g 1, 1, .inr (.inl (fun _ => 0))))]) hP hD [3, 0, 1] [2] rfl rfl (by decide) (by decide) hk1 hFc hP1 hD1
      have hP : va_P D vwCl [((a 200), f_m a g), (o1, .inl (g 1, 1, .inr (.inl (fun _ => 0))))] H := hP
      have hD : va_D (va_A [] s.heap.size) [((a 200), f_m a g), (o1, .inl (g 1, 1, .inr (.inl (fun _ => 0))))] := hD
      refine lv_istore (lv' := [(6, .int 2), (0, .ref b), (1, .ref (a 0)), (2, .ref (a 200)), (3, .ref o1), (4, .ref o2), (5, .int 0)]) hx hb dL_law_3337 hl (by decide) rfl (fun ls hl => ?_)
      refine lv_aload_n hx hb dL_law_3339 rfl (lv_at hl 3 rfl) ?_
      refine lv_aload_n hx hb dL_law_3340 rfl (lv_at hl 1 rfl) ?_
      refine lv_iload hx hb dL_law_3341 (lv_at hl 6 rfl) ?_
      refine lv_iconst (v := 1) hx hb dL_law_3343 (by decide) ?_
      refine lv_iadd hx hb dL_law_3344 ?_
      refine r_topi (v := 1) (by decide) ?_
      refine va_sld hx hb hX hbl hbA hS (by unfold vp_in; decide) dL_law_3345 ?_
      refine r_topi (v := xs 1) (congrArg xs (by decide)) ?_
      refine lv_i2c (v := ((xs 1).toUInt32 % 65536).toInt32) hx hb dL_law_3346 rfl ?_
      have hPc : va_P D vwCl [((a 200), f_m a g)] _ := hP.sub (ws' := [((a 200), f_m a g)]) [0] rfl
      have hDc : va_D (fun q => z0 ≤ q) [((a 200), f_m a g)] := (hD.to hAz).pick (ws' := [((a 200), f_m a g)]) [0] (by decide) rfl
      have hFc := va_free (wc := [((a 200), f_m a g)]) hD hS hA [0] rfl
      refine va_calli (va_runV (As := [.int (((xs 1).toUInt32 % 65536).toInt32)]) (rest := []) ⟨hx, hb, hml, hown, ht⟩ (k_X15_marchCount l D g z0 _ a (((xs 1).toUInt32 % 65536).toInt32) (isC_i2c _)) (cwV 1 ht (gV w_1146 w_1148 w_1149 w_334 w_1147) rfl rfl rfl (by decide +kernel) (le2 rfl rfl)) ⟨PP.blind, va_recv hK.1 hP (ci := 21) (q0 := 0) rfl rfl, PP.mk' hK hZ hz hAz hS hPc hDc⟩ rfl rfl hl.1 rfl (lv_room (Nat.le_of_ble_eq_true rfl)) dL_law_3347 (le2 rfl rfl)) hS (fun q _ h => hFc q h) hFc (fun r u t H locs ht1 hvm hw hB hz1 hk1 hS => ?_)
      rcases hw with hw | hw
      · obtain ⟨rfl, rfl, hw⟩ := hw
        rcases hw with hw | hw | hw
        · obtain ⟨c_51, c_52, c_53, c_54, c_55⟩ := hw
          exact absurd c_50 c_53
        · obtain ⟨c_56, c_57, c_58, c_59, c_60⟩ := hw
          exact absurd c_50 c_58
        · obtain ⟨c_61, c_62, c_63, c_64, c_65⟩ := hw
          exact absurd c_50 c_63
      · obtain ⟨rfl, rfl, hw⟩ := hw
        rcases hw with hw | hw | hw | hw | hw
        · have c_66 := hw
          exact absurd (c_50.symm.trans c_66) (by decide)
        · have c_67 := hw
          exact absurd (c_50.symm.trans c_67) (by decide)
        · have c_68 := hw
          obtain ⟨hP1, hD1⟩ := hB
          rw [ht1] at hP1
          obtain ⟨hP, hD⟩ := va_join (wr := [(o1, .inl (g 1, 1, .inr (.inl (fun _ => 0))))]) (w1 := [((a 200), .inr (21, [.int 2, .ref (a 201), .ref (a 202), .ref (a 203), .ref (a 204), .ref (a 205), .ref (a 206), .int 0, .int 0, .int 0, .int 0, .ref (a 208), .ref (a 209), .ref (a 210), .ref (a 211), .ref (a 212), .int 4, .int 12, .int (-1), .int 0, .ref (g 200), .ref (a 213), .int 0, .int 97, .ref (a 214), .ref (a 215), .ref (a 207), .null, .int 0]))]) hP hD [0] [1] rfl rfl (by decide) (by decide) hk1 hFc hP1 hD1
          have hP : va_P D vwCl [(o1, .inl (g 1, 1, .inr (.inl (fun _ => 0)))), ((a 200), .inr (21, [.int 2, .ref (a 201), .ref (a 202), .ref (a 203), .ref (a 204), .ref (a 205), .ref (a 206), .int 0, .int 0, .int 0, .int 0, .ref (a 208), .ref (a 209), .ref (a 210), .ref (a 211), .ref (a 212), .int 4, .int 12, .int (-1), .int 0, .ref (g 200), .ref (a 213), .int 0, .int 97, .ref (a 214), .ref (a 215), .ref (a 207), .null, .int 0]))] H := hP
          have hD : va_D (va_A [] s.heap.size) [(o1, .inl (g 1, 1, .inr (.inl (fun _ => 0)))), ((a 200), .inr (21, [.int 2, .ref (a 201), .ref (a 202), .ref (a 203), .ref (a 204), .ref (a 205), .ref (a 206), .int 0, .int 0, .int 0, .int 0, .ref (a 208), .ref (a 209), .ref (a 210), .ref (a 211), .ref (a 212), .int 4, .int 12, .int (-1), .int 0, .ref (g 200), .ref (a 213), .int 0, .int 97, .ref (a 214), .ref (a 215), .ref (a 207), .null, .int 0]))] := hD
          refine lv_istore (lv' := [(7, .int 0), (6, .int 2), (0, .ref b), (1, .ref (a 0)), (2, .ref (a 200)), (3, .ref o1), (4, .ref o2), (5, .int 0)]) hx hb dL_law_3350 hl (by decide) rfl (fun ls hl => ?_)
          refine lv_aload_n hx hb dL_law_3352 rfl (lv_at hl 4 rfl) ?_
          have hPc : va_P D vwCl [((a 200), .inr (21, [.int 2, .ref (a 201), .ref (a 202), .ref (a 203), .ref (a 204), .ref (a 205), .ref (a 206), .int 0, .int 0, .int 0, .int 0, .ref (a 208), .ref (a 209), .ref (a 210), .ref (a 211), .ref (a 212), .int 4, .int 12, .int (-1), .int 0, .ref (g 200), .ref (a 213), .int 0, .int 97, .ref (a 214), .ref (a 215), .ref (a 207), .null, .int 0]))] _ := hP.sub (ws' := [((a 200), .inr (21, [.int 2, .ref (a 201), .ref (a 202), .ref (a 203), .ref (a 204), .ref (a 205), .ref (a 206), .int 0, .int 0, .int 0, .int 0, .ref (a 208), .ref (a 209), .ref (a 210), .ref (a 211), .ref (a 212), .int 4, .int 12, .int (-1), .int 0, .ref (g 200), .ref (a 213), .int 0, .int 97, .ref (a 214), .ref (a 215), .ref (a 207), .null, .int 0]))]) [1] rfl
          have hDc : va_D (fun q => z0 ≤ q) [((a 200), .inr (21, [.int 2, .ref (a 201), .ref (a 202), .ref (a 203), .ref (a 204), .ref (a 205), .ref (a 206), .int 0, .int 0, .int 0, .int 0, .ref (a 208), .ref (a 209), .ref (a 210), .ref (a 211), .ref (a 212), .int 4, .int 12, .int (-1), .int 0, .ref (g 200), .ref (a 213), .int 0, .int 97, .ref (a 214), .ref (a 215), .ref (a 207), .null, .int 0]))] := (hD.to hAz).pick (ws' := [((a 200), .inr (21, [.int 2, .ref (a 201), .ref (a 202), .ref (a 203), .ref (a 204), .ref (a 205), .ref (a 206), .int 0, .int 0, .int 0, .int 0, .ref (a 208), .ref (a 209), .ref (a 210), .ref (a 211), .ref (a 212), .int 4, .int 12, .int (-1), .int 0, .ref (g 200), .ref (a 213), .int 0, .int 97, .ref (a 214), .ref (a 215), .ref (a 207), .null, .int 0]))]) [1] (by decide) rfl
          have hFc := va_free (wc := [((a 200), .inr (21, [.int 2, .ref (a 201), .ref (a 202), .ref (a 203), .ref (a 204), .ref (a 205), .ref (a 206), .int 0, .int 0, .int 0, .int 0, .ref (a 208), .ref (a 209), .ref (a 210), .ref (a 211), .ref (a 212), .int 4, .int 12, .int (-1), .int 0, .ref (g 200), .ref (a 213), .int 0, .int 97, .ref (a 214), .ref (a 215), .ref (a 207), .null, .int 0]))]) hD hS hA [1] rfl
          refine va_calli (va_runV (As := []) (rest := []) ⟨hx, hb, hml, hown, ht⟩ (k_X15_thrown_v1 l D g z0 _ a) (cwV 0 ht (gV w_772 w_774 w_775 w_334 w_773) rfl rfl rfl (by decide +kernel) (le2 rfl rfl)) ⟨PP.blind, va_recv hK.1 hP (ci := 21) (q0 := 1) rfl rfl, PP.mk' hK hZ hz hAz hS hPc hDc⟩ rfl rfl hl.1 rfl (lv_room (Nat.le_of_ble_eq_true rfl)) dL_law_3353 (le2 rfl rfl)) hS (fun q _ h => hFc q h) hFc (fun r u t H locs ht1 hvm hw hB hz1 hk1 hS => ?_)
          obtain ⟨rfl, hw⟩ := hw
          obtain ⟨hP1, hD1⟩ := hB
          rw [ht1] at hP1
          obtain ⟨hP, hD⟩ := va_join (wr := [(o1, .inl (g 1, 1, .inr (.inl (fun _ => 0))))]) (w1 := [((a 200), .inr (21, [.int 2, .ref (a 201), .ref (a 202), .ref (a 203), .ref (a 204), .ref (a 205), .ref (a 206), .int 0, .int 0, .int 0, .int 0, .ref (a 208), .ref (a 209), .ref (a 210), .ref (a 211), .ref (a 212), .int 4, .int 12, .int (-1), .int 0, .ref (g 200), .ref (a 213), .int 0, .int 97, .ref (a 214), .ref (a 215), .ref (a 207), .null, .int 0]))]) hP hD [1] [0] rfl rfl (by decide) (by decide) hk1 hFc hP1 hD1
          have hP : va_P D vwCl [(o1, .inl (g 1, 1, .inr (.inl (fun _ => 0)))), ((a 200), .inr (21, [.int 2, .ref (a 201), .ref (a 202), .ref (a 203), .ref (a 204), .ref (a 205), .ref (a 206), .int 0, .int 0, .int 0, .int 0, .ref (a 208), .ref (a 209), .ref (a 210), .ref (a 211), .ref (a 212), .int 4, .int 12, .int (-1), .int 0, .ref (g 200), .ref (a 213), .int 0, .int 97, .ref (a 214), .ref (a 215), .ref (a 207), .null, .int 0]))] H := hP
          have hD : va_D (va_A [] s.heap.size) [(o1, .inl (g 1, 1, .inr (.inl (fun _ => 0)))), ((a 200), .inr (21, [.int 2, .ref (a 201), .ref (a 202), .ref (a 203), .ref (a 204), .ref (a 205), .ref (a 206), .int 0, .int 0, .int 0, .int 0, .ref (a 208), .ref (a 209), .ref (a 210), .ref (a 211), .ref (a 212), .int 4, .int 12, .int (-1), .int 0, .ref (g 200), .ref (a 213), .int 0, .int 97, .ref (a 214), .ref (a 215), .ref (a 207), .null, .int 0]))] := hD
          refine lv_iload hx hb dL_law_3356 (lv_at hl 1 rfl) ?_
          refine lv_icmp_eq (tgt := 3363) hx hb dL_law_3358 (by decide) (fun c_69 => ?_) (fun c_69 => ?_)
          · refine lv_iload hx hb dL_law_3363 (lv_at hl 1 rfl) ?_
            refine lv_if_ne (tgt := 3380) hx hb dL_law_3365 (by decide) (fun c_70 => ?_) (fun c_70 => ?_)
            · refine lv_goto (tgt := 4264) hx hb dL_law_3380 (by decide) ?_
              refine W.widen (k := 200 + 300) (n := 8000 + 2000) (Nat.le_of_ble_eq_true rfl) (Nat.le_of_ble_eq_true rfl) ?_
              exact kk _ _ _ hS (lv_sub hl [7, 2] rfl)
            · exact absurd c_70 (by decide)
          · exact absurd c_69 (by decide)
        · have c_71 := hw
          exact absurd c_71 c_49
        · have c_72 := hw
          exact absurd c_72 c_48
    · obtain ⟨c_73, c_74, c_75, c_76⟩ := hw
      obtain ⟨hP1, hD1⟩ := hB
      rw [ht1] at hP1
      obtain ⟨hP, hD⟩ := va_join (wr := [((a 200), f_m a g)]) (w1 := [(o1, .inl (g 1, 1, .inr (.inl (fun _ => 0))))]) hP hD [3, 0, 1] [2] rfl rfl (by decide) (by decide) hk1 hFc hP1 hD1
      have hP : va_P D vwCl [((a 200), f_m a g), (o1, .inl (g 1, 1, .inr (.inl (fun _ => 0))))] H := hP
      have hD : va_D (va_A [] s.heap.size) [((a 200), f_m a g), (o1, .inl (g 1, 1, .inr (.inl (fun _ => 0))))] := hD
      refine lv_istore (lv' := [(6, .int 2), (0, .ref b), (1, .ref (a 0)), (2, .ref (a 200)), (3, .ref o1), (4, .ref o2), (5, .int 0)]) hx hb dL_law_3337 hl (by decide) rfl (fun ls hl => ?_)
      refine lv_aload_n hx hb dL_law_3339 rfl (lv_at hl 3 rfl) ?_
      refine lv_aload_n hx hb dL_law_3340 rfl (lv_at hl 1 rfl) ?_
      refine lv_iload hx hb dL_law_3341 (lv_at hl 6 rfl) ?_
      refine lv_iconst (v := 1) hx hb dL_law_3343 (by decide) ?_
      refine lv_iadd hx hb dL_law_3344 ?_
      refine r_topi (v := 1) (by decide) ?_
      refine va_sld hx hb hX hbl hbA hS (by unfold vp_in; decide) dL_law_3345 ?_
      refine r_topi (v := xs 1) (congrArg xs (by decide)) ?_
      refine lv_i2c (v := ((xs 1).toUInt32 % 65536).toInt32) hx hb dL_law_3346 rfl ?_
      have hPc : va_P D vwCl [((a 200), f_m a g)] _ := hP.sub (ws' := [((a 200), f_m a g)]) [0] rfl
      have hDc : va_D (fun q => z0 ≤ q) [((a 200), f_m a g)] := (hD.to hAz).pick (ws' := [((a 200), f_m a g)]) [0] (by decide) rfl
      have hFc := va_free (wc := [((a 200), f_m a g)]) hD hS hA [0] rfl
      refine va_calli (va_runV (As := [.int (((xs 1).toUInt32 % 65536).toInt32)]) (rest := []) ⟨hx, hb, hml, hown, ht⟩ (k_X15_marchCount l D g z0 _ a (((xs 1).toUInt32 % 65536).toInt32) (isC_i2c _)) (cwV 1 ht (gV w_1146 w_1148 w_1149 w_334 w_1147) rfl rfl rfl (by decide +kernel) (le2 rfl rfl)) ⟨PP.blind, va_recv hK.1 hP (ci := 21) (q0 := 0) rfl rfl, PP.mk' hK hZ hz hAz hS hPc hDc⟩ rfl rfl hl.1 rfl (lv_room (Nat.le_of_ble_eq_true rfl)) dL_law_3347 (le2 rfl rfl)) hS (fun q _ h => hFc q h) hFc (fun r u t H locs ht1 hvm hw hB hz1 hk1 hS => ?_)
      rcases hw with hw | hw
      · obtain ⟨rfl, rfl, hw⟩ := hw
        rcases hw with hw | hw | hw
        · obtain ⟨c_77, c_78, c_79, c_80, c_81⟩ := hw
          exact absurd c_76 c_80
        · obtain ⟨c_82, c_83, c_84, c_85, c_86⟩ := hw
          exact absurd c_76 c_85
        · obtain ⟨c_87, c_88, c_89, c_90, c_91⟩ := hw
          exact absurd c_76 c_90
      · obtain ⟨rfl, rfl, hw⟩ := hw
        rcases hw with hw | hw | hw | hw | hw
        · have c_92 := hw
          exact absurd (c_76.symm.trans c_92) (by decide)
        · have c_93 := hw
          obtain ⟨hP1, hD1⟩ := hB
          rw [ht1] at hP1
          obtain ⟨hP, hD⟩ := va_join (wr := [(o1, .inl (g 1, 1, .inr (.inl (fun _ => 0))))]) (w1 := [((a 200), .inr (21, [.int 2, .ref (a 201), .ref (a 202), .ref (a 203), .ref (a 204), .ref (a 205), .ref (a 206), .int 0, .int 0, .int 0, .int 0, .ref (a 208), .ref (a 209), .ref (a 210), .ref (a 211), .ref (a 212), .int 4, .int 12, .int (-1), .int 0, .ref (g 200), .ref (a 213), .int 0, .int 97, .ref (a 214), .ref (a 215), .ref (a 207), .null, .int 0]))]) hP hD [0] [1] rfl rfl (by decide) (by decide) hk1 hFc hP1 hD1
          have hP : va_P D vwCl [(o1, .inl (g 1, 1, .inr (.inl (fun _ => 0)))), ((a 200), .inr (21, [.int 2, .ref (a 201), .ref (a 202), .ref (a 203), .ref (a 204), .ref (a 205), .ref (a 206), .int 0, .int 0, .int 0, .int 0, .ref (a 208), .ref (a 209), .ref (a 210), .ref (a 211), .ref (a 212), .int 4, .int 12, .int (-1), .int 0, .ref (g 200), .ref (a 213), .int 0, .int 97, .ref (a 214), .ref (a 215), .ref (a 207), .null, .int 0]))] H := hP
          have hD : va_D (va_A [] s.heap.size) [(o1, .inl (g 1, 1, .inr (.inl (fun _ => 0)))), ((a 200), .inr (21, [.int 2, .ref (a 201), .ref (a 202), .ref (a 203), .ref (a 204), .ref (a 205), .ref (a 206), .int 0, .int 0, .int 0, .int 0, .ref (a 208), .ref (a 209), .ref (a 210), .ref (a 211), .ref (a 212), .int 4, .int 12, .int (-1), .int 0, .ref (g 200), .ref (a 213), .int 0, .int 97, .ref (a 214), .ref (a 215), .ref (a 207), .null, .int 0]))] := hD
          refine lv_istore (lv' := [(7, .int 0), (6, .int 2), (0, .ref b), (1, .ref (a 0)), (2, .ref (a 200)), (3, .ref o1), (4, .ref o2), (5, .int 0)]) hx hb dL_law_3350 hl (by decide) rfl (fun ls hl => ?_)
          refine lv_aload_n hx hb dL_law_3352 rfl (lv_at hl 4 rfl) ?_
          have hPc : va_P D vwCl [((a 200), .inr (21, [.int 2, .ref (a 201), .ref (a 202), .ref (a 203), .ref (a 204), .ref (a 205), .ref (a 206), .int 0, .int 0, .int 0, .int 0, .ref (a 208), .ref (a 209), .ref (a 210), .ref (a 211), .ref (a 212), .int 4, .int 12, .int (-1), .int 0, .ref (g 200), .ref (a 213), .int 0, .int 97, .ref (a 214), .ref (a 215), .ref (a 207), .null, .int 0]))] _ := hP.sub (ws' := [((a 200), .inr (21, [.int 2, .ref (a 201), .ref (a 202), .ref (a 203), .ref (a 204), .ref (a 205), .ref (a 206), .int 0, .int 0, .int 0, .int 0, .ref (a 208), .ref (a 209), .ref (a 210), .ref (a 211), .ref (a 212), .int 4, .int 12, .int (-1), .int 0, .ref (g 200), .ref (a 213), .int 0, .int 97, .ref (a 214), .ref (a 215), .ref (a 207), .null, .int 0]))]) [1] rfl
          have hDc : va_D (fun q => z0 ≤ q) [((a 200), .inr (21, [.int 2, .ref (a 201), .ref (a 202), .ref (a 203), .ref (a 204), .ref (a 205), .ref (a 206), .int 0, .int 0, .int 0, .int 0, .ref (a 208), .ref (a 209), .ref (a 210), .ref (a 211), .ref (a 212), .int 4, .int 12, .int (-1), .int 0, .ref (g 200), .ref (a 213), .int 0, .int 97, .ref (a 214), .ref (a 215), .ref (a 207), .null, .int 0]))] := (hD.to hAz).pick (ws' := [((a 200), .inr (21, [.int 2, .ref (a 201), .ref (a 202), .ref (a 203), .ref (a 204), .ref (a 205), .ref (a 206), .int 0, .int 0, .int 0, .int 0, .ref (a 208), .ref (a 209), .ref (a 210), .ref (a 211), .ref (a 212), .int 4, .int 12, .int (-1), .int 0, .ref (g 200), .ref (a 213), .int 0, .int 97, .ref (a 214), .ref (a 215), .ref (a 207), .null, .int 0]))]) [1] (by decide) rfl
          have hFc := va_free (wc := [((a 200), .inr (21, [.int 2, .ref (a 201), .ref (a 202), .ref (a 203), .ref (a 204), .ref (a 205), .ref (a 206), .int 0, .int 0, .int 0, .int 0, .ref (a 208), .ref (a 209), .ref (a 210), .ref (a 211), .ref (a 212), .int 4, .int 12, .int (-1), .int 0, .ref (g 200), .ref (a 213), .int 0, .int 97, .ref (a 214), .ref (a 215), .ref (a 207), .null, .int 0]))]) hD hS hA [1] rfl
          refine va_calli (va_runV (As := []) (rest := []) ⟨hx, hb, hml, hown, ht⟩ (k_X15_thrown_v1 l D g z0 _ a) (cwV 0 ht (gV w_772 w_774 w_775 w_334 w_773) rfl rfl rfl (by decide +kernel) (le2 rfl rfl)) ⟨PP.blind, va_recv hK.1 hP (ci := 21) (q0 := 1) rfl rfl, PP.mk' hK hZ hz hAz hS hPc hDc⟩ rfl rfl hl.1 rfl (lv_room (Nat.le_of_ble_eq_true rfl)) dL_law_3353 (le2 rfl rfl)) hS (fun q _ h => hFc q h) hFc (fun r u t H locs ht1 hvm hw hB hz1 hk1 hS => ?_)
          obtain ⟨rfl, hw⟩ := hw
          obtain ⟨hP1, hD1⟩ := hB
          rw [ht1] at hP1
          obtain ⟨hP, hD⟩ := va_join (wr := [(o1, .inl (g 1, 1, .inr (.inl (fun _ => 0))))]) (w1 := [((a 200), .inr (21, [.int 2, .ref (a 201), .ref (a 202), .ref (a 203), .ref (a 204), .ref (a 205), .ref (a 206), .int 0, .int 0, .int 0, .int 0, .ref (a 208), .ref (a 209), .ref (a 210), .ref (a 211), .ref (a 212), .int 4, .int 12, .int (-1), .int 0, .ref (g 200), .ref (a 213), .int 0, .int 97, .ref (a 214), .ref (a 215), .ref (a 207), .null, .int 0]))]) hP hD [1] [0] rfl rfl (by decide) (by decide) hk1 hFc hP1 hD1
          have hP : va_P D vwCl [(o1, .inl (g 1, 1, .inr (.inl (fun _ => 0)))), ((a 200), .inr (21, [.int 2, .ref (a 201), .ref (a 202), .ref (a 203), .ref (a 204), .ref (a 205), .ref (a 206), .int 0, .int 0, .int 0, .int 0, .ref (a 208), .ref (a 209), .ref (a 210), .ref (a 211), .ref (a 212), .int 4, .int 12, .int (-1), .int 0, .ref (g 200), .ref (a 213), .int 0, .int 97, .ref (a 214), .ref (a 215), .ref (a 207), .null, .int 0]))] H := hP
          have hD : va_D (va_A [] s.heap.size) [(o1, .inl (g 1, 1, .inr (.inl (fun _ => 0)))), ((a 200), .inr (21, [.int 2, .ref (a 201), .ref (a 202), .ref (a 203), .ref (a 204), .ref (a 205), .ref (a 206), .int 0, .int 0, .int 0, .int 0, .ref (a 208), .ref (a 209), .ref (a 210), .ref (a 211), .ref (a 212), .int 4, .int 12, .int (-1), .int 0, .ref (g 200), .ref (a 213), .int 0, .int 97, .ref (a 214), .ref (a 215), .ref (a 207), .null, .int 0]))] := hD
          refine lv_iload hx hb dL_law_3356 (lv_at hl 1 rfl) ?_
          refine lv_icmp_eq (tgt := 3363) hx hb dL_law_3358 (by decide) (fun c_94 => ?_) (fun c_94 => ?_)
          · refine lv_iload hx hb dL_law_3363 (lv_at hl 1 rfl) ?_
            refine lv_if_ne (tgt := 3380) hx hb dL_law_3365 (by decide) (fun c_95 => ?_) (fun c_95 => ?_)
            · refine lv_goto (tgt := 4264) hx hb dL_law_3380 (by decide) ?_
              refine W.widen (k := 200 + 300) (n := 8000 + 2000) (Nat.le_of_ble_eq_true rfl) (Nat.le_of_ble_eq_true rfl) ?_
              exact kk _ _ _ hS (lv_sub hl [7, 2] rfl)
            · exact absurd c_95 (by decide)
          · exact absurd c_94 (by decide)
        · have c_96 := hw
          exact absurd c_96 c_75
        · have c_97 := hw
          exact absurd c_97 c_74
        · have c_98 := hw
          exact absurd c_98 c_73
    · obtain ⟨c_99, c_100, c_101, c_102, c_103⟩ := hw
      obtain ⟨hP1, hD1⟩ := hB
      rw [ht1] at hP1
      obtain ⟨hP, hD⟩ := va_join (wr := [((a 200), f_m a g)]) (w1 := [(o1, .inl (g 1, 1, .inr (.inl (fun _ => 0))))]) hP hD [3, 0, 1] [2] rfl rfl (by decide) (by decide) hk1 hFc hP1 hD1
      have hP : va_P D vwCl [((a 200), f_m a g), (o1, .inl (g 1, 1, .inr (.inl (fun _ => 0))))] H := hP
      have hD : va_D (va_A [] s.heap.size) [((a 200), f_m a g), (o1, .inl (g 1, 1, .inr (.inl (fun _ => 0))))] := hD
      refine lv_istore (lv' := [(6, .int 2), (0, .ref b), (1, .ref (a 0)), (2, .ref (a 200)), (3, .ref o1), (4, .ref o2), (5, .int 0)]) hx hb dL_law_3337 hl (by decide) rfl (fun ls hl => ?_)
      refine lv_aload_n hx hb dL_law_3339 rfl (lv_at hl 3 rfl) ?_
      refine lv_aload_n hx hb dL_law_3340 rfl (lv_at hl 1 rfl) ?_
      refine lv_iload hx hb dL_law_3341 (lv_at hl 6 rfl) ?_
      refine lv_iconst (v := 1) hx hb dL_law_3343 (by decide) ?_
      refine lv_iadd hx hb dL_law_3344 ?_
      refine r_topi (v := 1) (by decide) ?_
      refine va_sld hx hb hX hbl hbA hS (by unfold vp_in; decide) dL_law_3345 ?_
      refine r_topi (v := xs 1) (congrArg xs (by decide)) ?_
      refine lv_i2c (v := ((xs 1).toUInt32 % 65536).toInt32) hx hb dL_law_3346 rfl ?_
      have hPc : va_P D vwCl [((a 200), f_m a g)] _ := hP.sub (ws' := [((a 200), f_m a g)]) [0] rfl
      have hDc : va_D (fun q => z0 ≤ q) [((a 200), f_m a g)] := (hD.to hAz).pick (ws' := [((a 200), f_m a g)]) [0] (by decide) rfl
      have hFc := va_free (wc := [((a 200), f_m a g)]) hD hS hA [0] rfl
      refine va_calli (va_runV (As := [.int (((xs 1).toUInt32 % 65536).toInt32)]) (rest := []) ⟨hx, hb, hml, hown, ht⟩ (k_X15_marchCount l D g z0 _ a (((xs 1).toUInt32 % 65536).toInt32) (isC_i2c _)) (cwV 1 ht (gV w_1146 w_1148 w_1149 w_334 w_1147) rfl rfl rfl (by decide +kernel) (le2 rfl rfl)) ⟨PP.blind, va_recv hK.1 hP (ci := 21) (q0 := 0) rfl rfl, PP.mk' hK hZ hz hAz hS hPc hDc⟩ rfl rfl hl.1 rfl (lv_room (Nat.le_of_ble_eq_true rfl)) dL_law_3347 (le2 rfl rfl)) hS (fun q _ h => hFc q h) hFc (fun r u t H locs ht1 hvm hw hB hz1 hk1 hS => ?_)
      rcases hw with hw | hw
      · obtain ⟨rfl, rfl, hw⟩ := hw
        rcases hw with hw | hw | hw
        · obtain ⟨c_104, c_105, c_106, c_107, c_108⟩ := hw
          exact absurd c_103 c_108
        · obtain ⟨c_109, c_110, c_111, c_112, c_113⟩ := hw
          exact absurd c_103 c_113
        · obtain ⟨c_114, c_115, c_116, c_117, c_118⟩ := hw
          exact absurd c_103 c_118
      · obtain ⟨rfl, rfl, hw⟩ := hw
        rcases hw with hw | hw | hw | hw | hw
        · have c_119 := hw
          obtain ⟨hP1, hD1⟩ := hB
          rw [ht1] at hP1
          obtain ⟨hP, hD⟩ := va_join (wr := [(o1, .inl (g 1, 1, .inr (.inl (fun _ => 0))))]) (w1 := [((a 200), .inr (21, [.int 2, .ref (a 201), .ref (a 202), .ref (a 203), .ref (a 204), .ref (a 205), .ref (a 206), .int 0, .int 0, .int 0, .int 0, .ref (a 208), .ref (a 209), .ref (a 210), .ref (a 211), .ref (a 212), .int 4, .int 12, .int (-1), .int 0, .ref (g 200), .ref (a 213), .int 0, .int 97, .ref (a 214), .ref (a 215), .ref (a 207), .null, .int 0]))]) hP hD [0] [1] rfl rfl (by decide) (by decide) hk1 hFc hP1 hD1
          have hP : va_P D vwCl [(o1, .inl (g 1, 1, .inr (.inl (fun _ => 0)))), ((a 200), .inr (21, [.int 2, .ref (a 201), .ref (a 202), .ref (a 203), .ref (a 204), .ref (a 205), .ref (a 206), .int 0, .int 0, .int 0, .int 0, .ref (a 208), .ref (a 209), .ref (a 210), .ref (a 211), .ref (a 212), .int 4, .int 12, .int (-1), .int 0, .ref (g 200), .ref (a 213), .int 0, .int 97, .ref (a 214), .ref (a 215), .ref (a 207), .null, .int 0]))] H := hP
          have hD : va_D (va_A [] s.heap.size) [(o1, .inl (g 1, 1, .inr (.inl (fun _ => 0)))), ((a 200), .inr (21, [.int 2, .ref (a 201), .ref (a 202), .ref (a 203), .ref (a 204), .ref (a 205), .ref (a 206), .int 0, .int 0, .int 0, .int 0, .ref (a 208), .ref (a 209), .ref (a 210), .ref (a 211), .ref (a 212), .int 4, .int 12, .int (-1), .int 0, .ref (g 200), .ref (a 213), .int 0, .int 97, .ref (a 214), .ref (a 215), .ref (a 207), .null, .int 0]))] := hD
          refine lv_istore (lv' := [(7, .int 0), (6, .int 2), (0, .ref b), (1, .ref (a 0)), (2, .ref (a 200)), (3, .ref o1), (4, .ref o2), (5, .int 0)]) hx hb dL_law_3350 hl (by decide) rfl (fun ls hl => ?_)
          refine lv_aload_n hx hb dL_law_3352 rfl (lv_at hl 4 rfl) ?_
          have hPc : va_P D vwCl [((a 200), .inr (21, [.int 2, .ref (a 201), .ref (a 202), .ref (a 203), .ref (a 204), .ref (a 205), .ref (a 206), .int 0, .int 0, .int 0, .int 0, .ref (a 208), .ref (a 209), .ref (a 210), .ref (a 211), .ref (a 212), .int 4, .int 12, .int (-1), .int 0, .ref (g 200), .ref (a 213), .int 0, .int 97, .ref (a 214), .ref (a 215), .ref (a 207), .null, .int 0]))] _ := hP.sub (ws' := [((a 200), .inr (21, [.int 2, .ref (a 201), .ref (a 202), .ref (a 203), .ref (a 204), .ref (a 205), .ref (a 206), .int 0, .int 0, .int 0, .int 0, .ref (a 208), .ref (a 209), .ref (a 210), .ref (a 211), .ref (a 212), .int 4, .int 12, .int (-1), .int 0, .ref (g 200), .ref (a 213), .int 0, .int 97, .ref (a 214), .ref (a 215), .ref (a 207), .null, .int 0]))]) [1] rfl
          have hDc : va_D (fun q => z0 ≤ q) [((a 200), .inr (21, [.int 2, .ref (a 201), .ref (a 202), .ref (a 203), .ref (a 204), .ref (a 205), .ref (a 206), .int 0, .int 0, .int 0, .int 0, .ref (a 208), .ref (a 209), .ref (a 210), .ref (a 211), .ref (a 212), .int 4, .int 12, .int (-1), .int 0, .ref (g 200), .ref (a 213), .int 0, .int 97, .ref (a 214), .ref (a 215), .ref (a 207), .null, .int 0]))] := (hD.to hAz).pick (ws' := [((a 200), .inr (21, [.int 2, .ref (a 201), .ref (a 202), .ref (a 203), .ref (a 204), .ref (a 205), .ref (a 206), .int 0, .int 0, .int 0, .int 0, .ref (a 208), .ref (a 209), .ref (a 210), .ref (a 211), .ref (a 212), .int 4, .int 12, .int (-1), .int 0, .ref (g 200), .ref (a 213), .int 0, .int 97, .ref (a 214), .ref (a 215), .ref (a 207), .null, .int 0]))]) [1] (by decide) rfl
          have hFc := va_free (wc := [((a 200), .inr (21, [.int 2, .ref (a 201), .ref (a 202), .ref (a 203), .ref (a 204), .ref (a 205), .ref (a 206), .int 0, .int 0, .int 0, .int 0, .ref (a 208), .ref (a 209), .ref (a 210), .ref (a 211), .ref (a 212), .int 4, .int 12, .int (-1), .int 0, .ref (g 200), .ref (a 213), .int 0, .int 97, .ref (a 214), .ref (a 215), .ref (a 207), .null, .int 0]))]) hD hS hA [1] rfl
          refine va_calli (va_runV (As := []) (rest := []) ⟨hx, hb, hml, hown, ht⟩ (k_X15_thrown_v1 l D g z0 _ a) (cwV 0 ht (gV w_772 w_774 w_775 w_334 w_773) rfl rfl rfl (by decide +kernel) (le2 rfl rfl)) ⟨PP.blind, va_recv hK.1 hP (ci := 21) (q0 := 1) rfl rfl, PP.mk' hK hZ hz hAz hS hPc hDc⟩ rfl rfl hl.1 rfl (lv_room (Nat.le_of_ble_eq_true rfl)) dL_law_3353 (le2 rfl rfl)) hS (fun q _ h => hFc q h) hFc (fun r u t H locs ht1 hvm hw hB hz1 hk1 hS => ?_)
          obtain ⟨rfl, hw⟩ := hw
          obtain ⟨hP1, hD1⟩ := hB
          rw [ht1] at hP1
          obtain ⟨hP, hD⟩ := va_join (wr := [(o1, .inl (g 1, 1, .inr (.inl (fun _ => 0))))]) (w1 := [((a 200), .inr (21, [.int 2, .ref (a 201), .ref (a 202), .ref (a 203), .ref (a 204), .ref (a 205), .ref (a 206), .int 0, .int 0, .int 0, .int 0, .ref (a 208), .ref (a 209), .ref (a 210), .ref (a 211), .ref (a 212), .int 4, .int 12, .int (-1), .int 0, .ref (g 200), .ref (a 213), .int 0, .int 97, .ref (a 214), .ref (a 215), .ref (a 207), .null, .int 0]))]) hP hD [1] [0] rfl rfl (by decide) (by decide) hk1 hFc hP1 hD1
          have hP : va_P D vwCl [(o1, .inl (g 1, 1, .inr (.inl (fun _ => 0)))), ((a 200), .inr (21, [.int 2, .ref (a 201), .ref (a 202), .ref (a 203), .ref (a 204), .ref (a 205), .ref (a 206), .int 0, .int 0, .int 0, .int 0, .ref (a 208), .ref (a 209), .ref (a 210), .ref (a 211), .ref (a 212), .int 4, .int 12, .int (-1), .int 0, .ref (g 200), .ref (a 213), .int 0, .int 97, .ref (a 214), .ref (a 215), .ref (a 207), .null, .int 0]))] H := hP
          have hD : va_D (va_A [] s.heap.size) [(o1, .inl (g 1, 1, .inr (.inl (fun _ => 0)))), ((a 200), .inr (21, [.int 2, .ref (a 201), .ref (a 202), .ref (a 203), .ref (a 204), .ref (a 205), .ref (a 206), .int 0, .int 0, .int 0, .int 0, .ref (a 208), .ref (a 209), .ref (a 210), .ref (a 211), .ref (a 212), .int 4, .int 12, .int (-1), .int 0, .ref (g 200), .ref (a 213), .int 0, .int 97, .ref (a 214), .ref (a 215), .ref (a 207), .null, .int 0]))] := hD
          refine lv_iload hx hb dL_law_3356 (lv_at hl 1 rfl) ?_
          refine lv_icmp_eq (tgt := 3363) hx hb dL_law_3358 (by decide) (fun c_120 => ?_) (fun c_120 => ?_)
          · refine lv_iload hx hb dL_law_3363 (lv_at hl 1 rfl) ?_
            refine lv_if_ne (tgt := 3380) hx hb dL_law_3365 (by decide) (fun c_121 => ?_) (fun c_121 => ?_)
            · refine lv_goto (tgt := 4264) hx hb dL_law_3380 (by decide) ?_
              refine W.widen (k := 200 + 300) (n := 8000 + 2000) (Nat.le_of_ble_eq_true rfl) (Nat.le_of_ble_eq_true rfl) ?_
              exact kk _ _ _ hS (lv_sub hl [7, 2] rfl)
            · exact absurd c_121 (by decide)
          · exact absurd c_120 (by decide)
        · have c_122 := hw
          exact absurd c_122 c_102
        · have c_123 := hw
          exact absurd c_123 c_101
        · have c_124 := hw
          exact absurd c_124 c_100
        · have c_125 := hw
          exact absurd c_125 c_99
  · obtain ⟨rfl, hw⟩ := hw
    obtain ⟨c_126, c_127, c_128, c_129, c_130⟩ := hw
    obtain ⟨hP1, hD1⟩ := hB
    rw [ht1] at hP1
    obtain ⟨hP, hD⟩ := va_join (wr := [((a 200), f_m a g)]) (w1 := [(o1, .inl (g 1, 1, .inr (.inl (fun _ => 0))))]) hP hD [3, 0, 1] [2] rfl rfl (by decide) (by decide) hk1 hFc hP1 hD1
    have hP : va_P D vwCl [((a 200), f_m a g), (o1, .inl (g 1, 1, .inr (.inl (fun _ => 0))))] H := hP
    have hD : va_D (va_A [] s.heap.size) [((a 200), f_m a g), (o1, .inl (g 1, 1, .inr (.inl (fun _ => 0))))] := hD
    refine lv_istore (lv' := [(6, .int 1), (0, .ref b), (1, .ref (a 0)), (2, .ref (a 200)), (3, .ref o1), (4, .ref o2), (5, .int 0)]) hx hb dL_law_3337 hl (by decide) rfl (fun ls hl => ?_)
    refine lv_aload_n hx hb dL_law_3339 rfl (lv_at hl 3 rfl) ?_
    refine lv_aload_n hx hb dL_law_3340 rfl (lv_at hl 1 rfl) ?_
    refine lv_iload hx hb dL_law_3341 (lv_at hl 6 rfl) ?_
    refine lv_iconst (v := 1) hx hb dL_law_3343 (by decide) ?_
    refine lv_iadd hx hb dL_law_3344 ?_
    refine r_topi (v := 1) (by decide) ?_
    refine va_sld hx hb hX hbl hbA hS (by unfold vp_in; decide) dL_law_3345 ?_
    refine r_topi (v := xs 1) (congrArg xs (by decide)) ?_
    refine lv_i2c (v := ((xs 1).toUInt32 % 65536).toInt32) hx hb dL_law_3346 rfl ?_
    have hPc : va_P D vwCl [((a 200), f_m a g)] _ := hP.sub (ws' := [((a 200), f_m a g)]) [0] rfl
    have hDc : va_D (fun q => z0 ≤ q) [((a 200), f_m a g)] := (hD.to hAz).pick (ws' := [((a 200), f_m a g)]) [0] (by decide) rfl
    have hFc := va_free (wc := [((a 200), f_m a g)]) hD hS hA [0] rfl
    refine va_calli (va_runV (As := [.int (((xs 1).toUInt32 % 65536).toInt32)]) (rest := []) ⟨hx, hb, hml, hown, ht⟩ (k_X15_marchCount l D g z0 _ a (((xs 1).toUInt32 % 65536).toInt32) (isC_i2c _)) (cwV 1 ht (gV w_1146 w_1148 w_1149 w_334 w_1147) rfl rfl rfl (by decide +kernel) (le2 rfl rfl)) ⟨PP.blind, va_recv hK.1 hP (ci := 21) (q0 := 0) rfl rfl, PP.mk' hK hZ hz hAz hS hPc hDc⟩ rfl rfl hl.1 rfl (lv_room (Nat.le_of_ble_eq_true rfl)) dL_law_3347 (le2 rfl rfl)) hS (fun q _ h => hFc q h) hFc (fun r u t H locs ht1 hvm hw hB hz1 hk1 hS => ?_)
    rcases hw with hw | hw
    · obtain ⟨rfl, rfl, hw⟩ := hw
      rcases hw with hw | hw | hw
      · obtain ⟨c_131, c_132, c_133, c_134, c_135⟩ := hw
        obtain ⟨hP1, hD1⟩ := hB
        rw [ht1] at hP1
        obtain ⟨hP, hD⟩ := va_join (wr := [(o1, .inl (g 1, 1, .inr (.inl (fun _ => 0))))]) (w1 := [((a 200), .inr (21, [.int 1, .ref (a 201), .ref (a 202), .ref (a 203), .ref (a 204), .ref (a 205), .ref (a 206), .int 0, .int 0, .int 0, .int 0, .ref (a 208), .ref (a 209), .ref (a 210), .ref (a 211), .ref (a 212), .int 4, .int 12, .int (-1), .int 0, .ref (g 200), .ref (a 213), .int 0, .int 97, .ref (a 214), .ref (a 215), .ref (a 207), .null, .int 0]))]) hP hD [0] [1] rfl rfl (by decide) (by decide) hk1 hFc hP1 hD1
        have hP : va_P D vwCl [(o1, .inl (g 1, 1, .inr (.inl (fun _ => 0)))), ((a 200), .inr (21, [.int 1, .ref (a 201), .ref (a 202), .ref (a 203), .ref (a 204), .ref (a 205), .ref (a 206), .int 0, .int 0, .int 0, .int 0, .ref (a 208), .ref (a 209), .ref (a 210), .ref (a 211), .ref (a 212), .int 4, .int 12, .int (-1), .int 0, .ref (g 200), .ref (a 213), .int 0, .int 97, .ref (a 214), .ref (a 215), .ref (a 207), .null, .int 0]))] H := hP
        have hD : va_D (va_A [] s.heap.size) [(o1, .inl (g 1, 1, .inr (.inl (fun _ => 0)))), ((a 200), .inr (21, [.int 1, .ref (a 201), .ref (a 202), .ref (a 203), .ref (a 204), .ref (a 205), .ref (a 206), .int 0, .int 0, .int 0, .int 0, .ref (a 208), .ref (a 209), .ref (a 210), .ref (a 211), .ref (a 212), .int 4, .int 12, .int (-1), .int 0, .ref (g 200), .ref (a 213), .int 0, .int 97, .ref (a 214), .ref (a 215), .ref (a 207), .null, .int 0]))] := hD
        refine lv_istore (lv' := [(7, .int 0), (6, .int 1), (0, .ref b), (1, .ref (a 0)), (2, .ref (a 200)), (3, .ref o1), (4, .ref o2), (5, .int 0)]) hx hb dL_law_3350 hl (by decide) rfl (fun ls hl => ?_)
        refine lv_aload_n hx hb dL_law_3352 rfl (lv_at hl 4 rfl) ?_
        have hPc : va_P D vwCl [((a 200), .inr (21, [.int 1, .ref (a 201), .ref (a 202), .ref (a 203), .ref (a 204), .ref (a 205), .ref (a 206), .int 0, .int 0, .int 0, .int 0, .ref (a 208), .ref (a 209), .ref (a 210), .ref (a 211), .ref (a 212), .int 4, .int 12, .int (-1), .int 0, .ref (g 200), .ref (a 213), .int 0, .int 97, .ref (a 214), .ref (a 215), .ref (a 207), .null, .int 0]))] _ := hP.sub (ws' := [((a 200), .inr (21, [.int 1, .ref (a 201), .ref (a 202), .ref (a 203), .ref (a 204), .ref (a 205), .ref (a 206), .int 0, .int 0, .int 0, .int 0, .ref (a 208), .ref (a 209), .ref (a 210), .ref (a 211), .ref (a 212), .int 4, .int 12, .int (-1), .int 0, .ref (g 200), .ref (a 213), .int 0, .int 97, .ref (a 214), .ref (a 215), .ref (a 207), .null, .int 0]))]) [1] rfl
        have hDc : va_D (fun q => z0 ≤ q) [((a 200), .inr (21, [.int 1, .ref (a 201), .ref (a 202), .ref (a 203), .ref (a 204), .ref (a 205), .ref (a 206), .int 0, .int 0, .int 0, .int 0, .ref (a 208), .ref (a 209), .ref (a 210), .ref (a 211), .ref (a 212), .int 4, .int 12, .int (-1), .int 0, .ref (g 200), .ref (a 213), .int 0, .int 97, .ref (a 214), .ref (a 215), .ref (a 207), .null, .int 0]))] := (hD.to hAz).pick (ws' := [((a 200), .inr (21, [.int 1, .ref (a 201), .ref (a 202), .ref (a 203), .ref (a 204), .ref (a 205), .ref (a 206), .int 0, .int 0, .int 0, .int 0, .ref (a 208), .ref (a 209), .ref (a 210), .ref (a 211), .ref (a 212), .int 4, .int 12, .int (-1), .int 0, .ref (g 200), .ref (a 213), .int 0, .int 97, .ref (a 214), .ref (a 215), .ref (a 207), .null, .int 0]))]) [1] (by decide) rfl
        have hFc := va_free (wc := [((a 200), .inr (21, [.int 1, .ref (a 201), .ref (a 202), .ref (a 203), .ref (a 204), .ref (a 205), .ref (a 206), .int 0, .int 0, .int 0, .int 0, .ref (a 208), .ref (a 209), .ref (a 210), .ref (a 211), .ref (a 212), .int 4, .int 12, .int (-1), .int 0, .ref (g 200), .ref (a 213), .int 0, .int 97, .ref (a 214), .ref (a 215), .ref (a 207), .null, .int 0]))]) hD hS hA [1] rfl
        refine va_calli (va_runV (As := []) (rest := []) ⟨hx, hb, hml, hown, ht⟩ (k_X15_thrown_v2 l D g z0 _ a) (cwV 0 ht (gV w_772 w_774 w_775 w_334 w_773) rfl rfl rfl (by decide +kernel) (le2 rfl rfl)) ⟨PP.blind, va_recv hK.1 hP (ci := 21) (q0 := 1) rfl rfl, PP.mk' hK hZ hz hAz hS hPc hDc⟩ rfl rfl hl.1 rfl (lv_room (Nat.le_of_ble_eq_true rfl)) dL_law_3353 (le2 rfl rfl)) hS (fun q _ h => hFc q h) hFc (fun r u t H locs ht1 hvm hw hB hz1 hk1 hS => ?_)
        obtain ⟨rfl, hw⟩ := hw
        obtain ⟨hP1, hD1⟩ := hB
        rw [ht1] at hP1
        obtain ⟨hP, hD⟩ := va_join (wr := [(o1, .inl (g 1, 1, .inr (.inl (fun _ => 0))))]) (w1 := [((a 200), .inr (21, [.int 1, .ref (a 201), .ref (a 202), .ref (a 203), .ref (a 204), .ref (a 205), .ref (a 206), .int 0, .int 0, .int 0, .int 0, .ref (a 208), .ref (a 209), .ref (a 210), .ref (a 211), .ref (a 212), .int 4, .int 12, .int (-1), .int 0, .ref (g 200), .ref (a 213), .int 0, .int 97, .ref (a 214), .ref (a 215), .ref (a 207), .null, .int 0]))]) hP hD [1] [0] rfl rfl (by decide) (by decide) hk1 hFc hP1 hD1
        have hP : va_P D vwCl [(o1, .inl (g 1, 1, .inr (.inl (fun _ => 0)))), ((a 200), .inr (21, [.int 1, .ref (a 201), .ref (a 202), .ref (a 203), .ref (a 204), .ref (a 205), .ref (a 206), .int 0, .int 0, .int 0, .int 0, .ref (a 208), .ref (a 209), .ref (a 210), .ref (a 211), .ref (a 212), .int 4, .int 12, .int (-1), .int 0, .ref (g 200), .ref (a 213), .int 0, .int 97, .ref (a 214), .ref (a 215), .ref (a 207), .null, .int 0]))] H := hP
        have hD : va_D (va_A [] s.heap.size) [(o1, .inl (g 1, 1, .inr (.inl (fun _ => 0)))), ((a 200), .inr (21, [.int 1, .ref (a 201), .ref (a 202), .ref (a 203), .ref (a 204), .ref (a 205), .ref (a 206), .int 0, .int 0, .int 0, .int 0, .ref (a 208), .ref (a 209), .ref (a 210), .ref (a 211), .ref (a 212), .int 4, .int 12, .int (-1), .int 0, .ref (g 200), .ref (a 213), .int 0, .int 97, .ref (a 214), .ref (a 215), .ref (a 207), .null, .int 0]))] := hD
        refine lv_iload hx hb dL_law_3356 (lv_at hl 1 rfl) ?_
        refine lv_icmp_eq (tgt := 3363) hx hb dL_law_3358 (by decide) (fun c_136 => ?_) (fun c_136 => ?_)
        · refine lv_iload hx hb dL_law_3363 (lv_at hl 1 rfl) ?_
          refine lv_if_ne (tgt := 3380) hx hb dL_law_3365 (by decide) (fun c_137 => ?_) (fun c_137 => ?_)
          · refine lv_goto (tgt := 4264) hx hb dL_law_3380 (by decide) ?_
            refine W.widen (k := 200 + 300) (n := 8000 + 2000) (Nat.le_of_ble_eq_true rfl) (Nat.le_of_ble_eq_true rfl) ?_
            exact kk _ _ _ hS (lv_sub hl [7, 2] rfl)
          · exact absurd c_137 (by decide)
        · exact absurd c_136 (by decide)
      · obtain ⟨c_138, c_139, c_140, c_141, c_142⟩ := hw
        obtain ⟨hP1, hD1⟩ := hB
        rw [ht1] at hP1
        obtain ⟨hP, hD⟩ := va_join (wr := [(o1, .inl (g 1, 1, .inr (.inl (fun _ => 0))))]) (w1 := [((a 200), .inr (21, [.int 1, .ref (a 201), .ref (a 202), .ref (a 203), .ref (a 204), .ref (a 205), .ref (a 206), .int 0, .int 0, .int 0, .int 0, .ref (a 208), .ref (a 209), .ref (a 210), .ref (a 211), .ref (a 212), .int 4, .int 12, .int (-1), .int 0, .ref (g 200), .ref (a 213), .int 0, .int 97, .ref (a 214), .ref (a 215), .ref (a 207), .null, .int 0]))]) hP hD [0] [1] rfl rfl (by decide) (by decide) hk1 hFc hP1 hD1
        have hP : va_P D vwCl [(o1, .inl (g 1, 1, .inr (.inl (fun _ => 0)))), ((a 200), .inr (21, [.int 1, .ref (a 201), .ref (a 202), .ref (a 203), .ref (a 204), .ref (a 205), .ref (a 206), .int 0, .int 0, .int 0, .int 0, .ref (a 208), .ref (a 209), .ref (a 210), .ref (a 211), .ref (a 212), .int 4, .int 12, .int (-1), .int 0, .ref (g 200), .ref (a 213), .int 0, .int 97, .ref (a 214), .ref (a 215), .ref (a 207), .null, .int 0]))] H := hP
        have hD : va_D (va_A [] s.heap.size) [(o1, .inl (g 1, 1, .inr (.inl (fun _ => 0)))), ((a 200), .inr (21, [.int 1, .ref (a 201), .ref (a 202), .ref (a 203), .ref (a 204), .ref (a 205), .ref (a 206), .int 0, .int 0, .int 0, .int 0, .ref (a 208), .ref (a 209), .ref (a 210), .ref (a 211), .ref (a 212), .int 4, .int 12, .int (-1), .int 0, .ref (g 200), .ref (a 213), .int 0, .int 97, .ref (a 214), .ref (a 215), .ref (a 207), .null, .int 0]))] := hD
        refine lv_istore (lv' := [(7, .int 0), (6, .int 1), (0, .ref b), (1, .ref (a 0)), (2, .ref (a 200)), (3, .ref o1), (4, .ref o2), (5, .int 0)]) hx hb dL_law_3350 hl (by decide) rfl (fun ls hl => ?_)
        refine lv_aload_n hx hb dL_law_3352 rfl (lv_at hl 4 rfl) ?_
        have hPc : va_P D vwCl [((a 200), .inr (21, [.int 1, .ref (a 201), .ref (a 202), .ref (a 203), .ref (a 204), .ref (a 205), .ref (a 206), .int 0, .int 0, .int 0, .int 0, .ref (a 208), .ref (a 209), .ref (a 210), .ref (a 211), .ref (a 212), .int 4, .int 12, .int (-1), .int 0, .ref (g 200), .ref (a 213), .int 0, .int 97, .ref (a 214), .ref (a 215), .ref (a 207), .null, .int 0]))] _ := hP.sub (ws' := [((a 200), .inr (21, [.int 1, .ref (a 201), .ref (a 202), .ref (a 203), .ref (a 204), .ref (a 205), .ref (a 206), .int 0, .int 0, .int 0, .int 0, .ref (a 208), .ref (a 209), .ref (a 210), .ref (a 211), .ref (a 212), .int 4, .int 12, .int (-1), .int 0, .ref (g 200), .ref (a 213), .int 0, .int 97, .ref (a 214), .ref (a 215), .ref (a 207), .null, .int 0]))]) [1] rfl
        have hDc : va_D (fun q => z0 ≤ q) [((a 200), .inr (21, [.int 1, .ref (a 201), .ref (a 202), .ref (a 203), .ref (a 204), .ref (a 205), .ref (a 206), .int 0, .int 0, .int 0, .int 0, .ref (a 208), .ref (a 209), .ref (a 210), .ref (a 211), .ref (a 212), .int 4, .int 12, .int (-1), .int 0, .ref (g 200), .ref (a 213), .int 0, .int 97, .ref (a 214), .ref (a 215), .ref (a 207), .null, .int 0]))] := (hD.to hAz).pick (ws' := [((a 200), .inr (21, [.int 1, .ref (a 201), .ref (a 202), .ref (a 203), .ref (a 204), .ref (a 205), .ref (a 206), .int 0, .int 0, .int 0, .int 0, .ref (a 208), .ref (a 209), .ref (a 210), .ref (a 211), .ref (a 212), .int 4, .int 12, .int (-1), .int 0, .ref (g 200), .ref (a 213), .int 0, .int 97, .ref (a 214), .ref (a 215), .ref (a 207), .null, .int 0]))]) [1] (by decide) rfl
        have hFc := va_free (wc := [((a 200), .inr (21, [.int 1, .ref (a 201), .ref (a 202), .ref (a 203), .ref (a 204), .ref (a 205), .ref (a 206), .int 0, .int 0, .int 0, .int 0, .ref (a 208), .ref (a 209), .ref (a 210), .ref (a 211), .ref (a 212), .int 4, .int 12, .int (-1), .int 0, .ref (g 200), .ref (a 213), .int 0, .int 97, .ref (a 214), .ref (a 215), .ref (a 207), .null, .int 0]))]) hD hS hA [1] rfl
        refine va_calli (va_runV (As := []) (rest := []) ⟨hx, hb, hml, hown, ht⟩ (k_X15_thrown_v2 l D g z0 _ a) (cwV 0 ht (gV w_772 w_774 w_775 w_334 w_773) rfl rfl rfl (by decide +kernel) (le2 rfl rfl)) ⟨PP.blind, va_recv hK.1 hP (ci := 21) (q0 := 1) rfl rfl, PP.mk' hK hZ hz hAz hS hPc hDc⟩ rfl rfl hl.1 rfl (lv_room (Nat.le_of_ble_eq_true rfl)) dL_law_3353 (le2 rfl rfl)) hS (fun q _ h => hFc q h) hFc (fun r u t H locs ht1 hvm hw hB hz1 hk1 hS => ?_)
        obtain ⟨rfl, hw⟩ := hw
        obtain ⟨hP1, hD1⟩ := hB
        rw [ht1] at hP1
        obtain ⟨hP, hD⟩ := va_join (wr := [(o1, .inl (g 1, 1, .inr (.inl (fun _ => 0))))]) (w1 := [((a 200), .inr (21, [.int 1, .ref (a 201), .ref (a 202), .ref (a 203), .ref (a 204), .ref (a 205), .ref (a 206), .int 0, .int 0, .int 0, .int 0, .ref (a 208), .ref (a 209), .ref (a 210), .ref (a 211), .ref (a 212), .int 4, .int 12, .int (-1), .int 0, .ref (g 200), .ref (a 213), .int 0, .int 97, .ref (a 214), .ref (a 215), .ref (a 207), .null, .int 0]))]) hP hD [1] [0] rfl rfl (by decide) (by decide) hk1 hFc hP1 hD1
        have hP : va_P D vwCl [(o1, .inl (g 1, 1, .inr (.inl (fun _ => 0)))), ((a 200), .inr (21, [.int 1, .ref (a 201), .ref (a 202), .ref (a 203), .ref (a 204), .ref (a 205), .ref (a 206), .int 0, .int 0, .int 0, .int 0, .ref (a 208), .ref (a 209), .ref (a 210), .ref (a 211), .ref (a 212), .int 4, .int 12, .int (-1), .int 0, .ref (g 200), .ref (a 213), .int 0, .int 97, .ref (a 214), .ref (a 215), .ref (a 207), .null, .int 0]))] H := hP
        have hD : va_D (va_A [] s.heap.size) [(o1, .inl (g 1, 1, .inr (.inl (fun _ => 0)))), ((a 200), .inr (21, [.int 1, .ref (a 201), .ref (a 202), .ref (a 203), .ref (a 204), .ref (a 205), .ref (a 206), .int 0, .int 0, .int 0, .int 0, .ref (a 208), .ref (a 209), .ref (a 210), .ref (a 211), .ref (a 212), .int 4, .int 12, .int (-1), .int 0, .ref (g 200), .ref (a 213), .int 0, .int 97, .ref (a 214), .ref (a 215), .ref (a 207), .null, .int 0]))] := hD
        refine lv_iload hx hb dL_law_3356 (lv_at hl 1 rfl) ?_
        refine lv_icmp_eq (tgt := 3363) hx hb dL_law_3358 (by decide) (fun c_143 => ?_) (fun c_143 => ?_)
        · refine lv_iload hx hb dL_law_3363 (lv_at hl 1 rfl) ?_
          refine lv_if_ne (tgt := 3380) hx hb dL_law_3365 (by decide) (fun c_144 => ?_) (fun c_144 => ?_)
          · refine lv_goto (tgt := 4264) hx hb dL_law_3380 (by decide) ?_
            refine W.widen (k := 200 + 300) (n := 8000 + 2000) (Nat.le_of_ble_eq_true rfl) (Nat.le_of_ble_eq_true rfl) ?_
            exact kk _ _ _ hS (lv_sub hl [7, 2] rfl)
          · exact absurd c_144 (by decide)
        · exact absurd c_143 (by decide)
      · obtain ⟨c_145, c_146, c_147, c_148, c_149⟩ := hw
        obtain ⟨hP1, hD1⟩ := hB
        rw [ht1] at hP1
        obtain ⟨hP, hD⟩ := va_join (wr := [(o1, .inl (g 1, 1, .inr (.inl (fun _ => 0))))]) (w1 := [((a 200), .inr (21, [.int 1, .ref (a 201), .ref (a 202), .ref (a 203), .ref (a 204), .ref (a 205), .ref (a 206), .int 0, .int 0, .int 0, .int 0, .ref (a 208), .ref (a 209), .ref (a 210), .ref (a 211), .ref (a 212), .int 4, .int 12, .int (-1), .int 0, .ref (g 200), .ref (a 213), .int 0, .int 97, .ref (a 214), .ref (a 215), .ref (a 207), .null, .int 0]))]) hP hD [0] [1] rfl rfl (by decide) (by decide) hk1 hFc hP1 hD1
        have hP : va_P D vwCl [(o1, .inl (g 1, 1, .inr (.inl (fun _ => 0)))), ((a 200), .inr (21, [.int 1, .ref (a 201), .ref (a 202), .ref (a 203), .ref (a 204), .ref (a 205), .ref (a 206), .int 0, .int 0, .int 0, .int 0, .ref (a 208), .ref (a 209), .ref (a 210), .ref (a 211), .ref (a 212), .int 4, .int 12, .int (-1), .int 0, .ref (g 200), .ref (a 213), .int 0, .int 97, .ref (a 214), .ref (a 215), .ref (a 207), .null, .int 0]))] H := hP
        have hD : va_D (va_A [] s.heap.size) [(o1, .inl (g 1, 1, .inr (.inl (fun _ => 0)))), ((a 200), .inr (21, [.int 1, .ref (a 201), .ref (a 202), .ref (a 203), .ref (a 204), .ref (a 205), .ref (a 206), .int 0, .int 0, .int 0, .int 0, .ref (a 208), .ref (a 209), .ref (a 210), .ref (a 211), .ref (a 212), .int 4, .int 12, .int (-1), .int 0, .ref (g 200), .ref (a 213), .int 0, .int 97, .ref (a 214), .ref (a 215), .ref (a 207), .null, .int 0]))] := hD
        refine lv_istore (lv' := [(7, .int 0), (6, .int 1), (0, .ref b), (1, .ref (a 0)), (2, .ref (a 200)), (3, .ref o1), (4, .ref o2), (5, .int 0)]) hx hb dL_law_3350 hl (by decide) rfl (fun ls hl => ?_)
        refine lv_aload_n hx hb dL_law_3352 rfl (lv_at hl 4 rfl) ?_
        have hPc : va_P D vwCl [((a 200), .inr (21, [.int 1, .ref (a 201), .ref (a 202), .ref (a 203), .ref (a 204), .ref (a 205), .ref (a 206), .int 0, .int 0, .int 0, .int 0, .ref (a 208), .ref (a 209), .ref (a 210), .ref (a 211), .ref (a 212), .int 4, .int 12, .int (-1), .int 0, .ref (g 200), .ref (a 213), .int 0, .int 97, .ref (a 214), .ref (a 215), .ref (a 207), .null, .int 0]))] _ := hP.sub (ws' := [((a 200), .inr (21, [.int 1, .ref (a 201), .ref (a 202), .ref (a 203), .ref (a 204), .ref (a 205), .ref (a 206), .int 0, .int 0, .int 0, .int 0, .ref (a 208), .ref (a 209), .ref (a 210), .ref (a 211), .ref (a 212), .int 4, .int 12, .int (-1), .int 0, .ref (g 200), .ref (a 213), .int 0, .int 97, .ref (a 214), .ref (a 215), .ref (a 207), .null, .int 0]))]) [1] rfl
        have hDc : va_D (fun q => z0 ≤ q) [((a 200), .inr (21, [.int 1, .ref (a 201), .ref (a 202), .ref (a 203), .ref (a 204), .ref (a 205), .ref (a 206), .int 0, .int 0, .int 0, .int 0, .ref (a 208), .ref (a 209), .ref (a 210), .ref (a 211), .ref (a 212), .int 4, .int 12, .int (-1), .int 0, .ref (g 200), .ref (a 213), .int 0, .int 97, .ref (a 214), .ref (a 215), .ref (a 207), .null, .int 0]))] := (hD.to hAz).pick (ws' := [((a 200), .inr (21, [.int 1, .ref (a 201), .ref (a 202), .ref (a 203), .ref (a 204), .ref (a 205), .ref (a 206), .int 0, .int 0, .int 0, .int 0, .ref (a 208), .ref (a 209), .ref (a 210), .ref (a 211), .ref (a 212), .int 4, .int 12, .int (-1), .int 0, .ref (g 200), .ref (a 213), .int 0, .int 97, .ref (a 214), .ref (a 215), .ref (a 207), .null, .int 0]))]) [1] (by decide) rfl
        have hFc := va_free (wc := [((a 200), .inr (21, [.int 1, .ref (a 201), .ref (a 202), .ref (a 203), .ref (a 204), .ref (a 205), .ref (a 206), .int 0, .int 0, .int 0, .int 0, .ref (a 208), .ref (a 209), .ref (a 210), .ref (a 211), .ref (a 212), .int 4, .int 12, .int (-1), .int 0, .ref (g 200), .ref (a 213), .int 0, .int 97, .ref (a 214), .ref (a 215), .ref (a 207), .null, .int 0]))]) hD hS hA [1] rfl
        refine va_calli (va_runV (As := []) (rest := []) ⟨hx, hb, hml, hown, ht⟩ (k_X15_thrown_v2 l D g z0 _ a) (cwV 0 ht (gV w_772 w_774 w_775 w_334 w_773) rfl rfl rfl (by decide +kernel) (le2 rfl rfl)) ⟨PP.blind, va_recv hK.1 hP (ci := 21) (q0 := 1) rfl rfl, PP.mk' hK hZ hz hAz hS hPc hDc⟩ rfl rfl hl.1 rfl (lv_room (Nat.le_of_ble_eq_true rfl)) dL_law_3353 (le2 rfl rfl)) hS (fun q _ h => hFc q h) hFc (fun r u t H locs ht1 hvm hw hB hz1 hk1 hS => ?_)
        obtain ⟨rfl, hw⟩ := hw
        obtain ⟨hP1, hD1⟩ := hB
        rw [ht1] at hP1
        obtain ⟨hP, hD⟩ := va_join (wr := [(o1, .inl (g 1, 1, .inr (.inl (fun _ => 0))))]) (w1 := [((a 200), .inr (21, [.int 1, .ref (a 201), .ref (a 202), .ref (a 203), .ref (a 204), .ref (a 205), .ref (a 206), .int 0, .int 0, .int 0, .int 0, .ref (a 208), .ref (a 209), .ref (a 210), .ref (a 211), .ref (a 212), .int 4, .int 12, .int (-1), .int 0, .ref (g 200), .ref (a 213), .int 0, .int 97, .ref (a 214), .ref (a 215), .ref (a 207), .null, .int 0]))]) hP hD [1] [0] rfl rfl (by decide) (by decide) hk1 hFc hP1 hD1
        have hP : va_P D vwCl [(o1, .inl (g 1, 1, .inr (.inl (fun _ => 0)))), ((a 200), .inr (21, [.int 1, .ref (a 201), .ref (a 202), .ref (a 203), .ref (a 204), .ref (a 205), .ref (a 206), .int 0, .int 0, .int 0, .int 0, .ref (a 208), .ref (a 209), .ref (a 210), .ref (a 211), .ref (a 212), .int 4, .int 12, .int (-1), .int 0, .ref (g 200), .ref (a 213), .int 0, .int 97, .ref (a 214), .ref (a 215), .ref (a 207), .null, .int 0]))] H := hP
        have hD : va_D (va_A [] s.heap.size) [(o1, .inl (g 1, 1, .inr (.inl (fun _ => 0)))), ((a 200), .inr (21, [.int 1, .ref (a 201), .ref (a 202), .ref (a 203), .ref (a 204), .ref (a 205), .ref (a 206), .int 0, .int 0, .int 0, .int 0, .ref (a 208), .ref (a 209), .ref (a 210), .ref (a 211), .ref (a 212), .int 4, .int 12, .int (-1), .int 0, .ref (g 200), .ref (a 213), .int 0, .int 97, .ref (a 214), .ref (a 215), .ref (a 207), .null, .int 0]))] := hD
        refine lv_iload hx hb dL_law_3356 (lv_at hl 1 rfl) ?_
        refine lv_icmp_eq (tgt := 3363) hx hb dL_law_3358 (by decide) (fun c_150 => ?_) (fun c_150 => ?_)
        · refine lv_iload hx hb dL_law_3363 (lv_at hl 1 rfl) ?_
          refine lv_if_ne (tgt := 3380) hx hb dL_law_3365 (by decide) (fun c_151 => ?_) (fun c_151 => ?_)
          · refine lv_goto (tgt := 4264) hx hb dL_law_3380 (by decide) ?_
            refine W.widen (k := 200 + 300) (n := 8000 + 2000) (Nat.le_of_ble_eq_true rfl) (Nat.le_of_ble_eq_true rfl) ?_
            exact kk _ _ _ hS (lv_sub hl [7, 2] rfl)
          · exact absurd c_151 (by decide)
        · exact absurd c_150 (by decide)
    · obtain ⟨rfl, rfl, hw⟩ := hw
      rcases hw with hw | hw | hw | hw | hw
      · have c_152 := hw
        exact absurd c_152 c_130
      · have c_153 := hw
        exact absurd c_153 c_129
      · have c_154 := hw
        exact absurd c_154 c_128
      · have c_155 := hw
        exact absurd c_155 c_127
      · have c_156 := hw
        exact absurd c_156 c_126
set_option maxHeartbeats 4000000 in
set_option maxRecDepth 100000 in
theorem k_X15_thrown_v3 (l : Launch) (D : va_G) (g : Nat → ClassId) (z0 sz : Nat) (a : Nat → Nat) (c0 : Int32) (c1 : Int32) : Met l yX15_thrown (.code yX15_thrown cX15_thrown 1 (some .int) :: TG) (rmk 0 0 0 0) (va_Pc [.ref (a 200)] (PP D g z0 sz [((a 200), .inr (21, [.int 0, .ref (a 201), .ref (a 202), .ref (a 203), .ref (a 204), .ref (a 205), .ref (a 206), .int 0, .int 0, .int 0, .int 0, .ref (a 208), .ref (a 209), .ref (a 210), .ref (a 211), .ref (a 212), .int 4, .int 12, .int (-1), .int 0, .ref (g 200), .ref (a 213), .int c0, .int c1, .ref (a 214), .ref (a 215), .ref (a 207), .null, .int 0]))])) (va_Qi (fun (r : Int32) (u : Unit) => (r = 0) ∧ True) (fun (u : Unit) (t : State) => va_P D vwCl [((a 200), .inr (21, [.int 0, .ref (a 201), .ref (a 202), .ref (a 203), .ref (a 204), .ref (a 205), .ref (a 206), .int 0, .int 0, .int 0, .int 0, .ref (a 208), .ref (a 209), .ref (a 210), .ref (a 211), .ref (a 212), .int 4, .int 12, .int (-1), .int 0, .ref (g 200), .ref (a 213), .int c0, .int c1, .ref (a 214), .ref (a 215), .ref (a 207), .null, .int 0]))] t.heap ∧ va_D (va_A [((a 200), .inr (21, [.int 0, .ref (a 201), .ref (a 202), .ref (a 203), .ref (a 204), .ref (a 205), .ref (a 206), .int 0, .int 0, .int 0, .int 0, .ref (a 208), .ref (a 209), .ref (a 210), .ref (a 211), .ref (a 212), .int 4, .int 12, .int (-1), .int 0, .ref (g 200), .ref (a 213), .int c0, .int c1, .ref (a 214), .ref (a 215), .ref (a 207), .null, .int 0]))] sz) [((a 200), .inr (21, [.int 0, .ref (a 201), .ref (a 202), .ref (a 203), .ref (a 204), .ref (a 205), .ref (a 206), .int 0, .int 0, .int 0, .int 0, .ref (a 208), .ref (a 209), .ref (a 210), .ref (a 211), .ref (a 212), .int 4, .int 12, .int (-1), .int 0, .ref (g 200), .ref (a 213), .int c0, .int c1, .ref (a 214), .ref (a 215), .ref (a 207), .null, .int 0]))]) (va_A [((a 200), .inr (21, [.int 0, .ref (a 201), .ref (a 202), .ref (a 203), .ref (a 204), .ref (a 205), .ref (a 206), .int 0, .int 0, .int 0, .int 0, .ref (a 208), .ref (a 209), .ref (a 210), .ref (a 211), .ref (a 212), .int 4, .int 12, .int (-1), .int 0, .ref (g 200), .ref (a 213), .int c0, .int c1, .ref (a 214), .ref (a 215), .ref (a 207), .null, .int 0]))] sz)) 0 0 (va_A [((a 200), .inr (21, [.int 0, .ref (a 201), .ref (a 202), .ref (a 203), .ref (a 204), .ref (a 205), .ref (a 206), .int 0, .int 0, .int 0, .int 0, .ref (a 208), .ref (a 209), .ref (a 210), .ref (a 211), .ref (a 212), .int 4, .int 12, .int (-1), .int 0, .ref (g 200), .ref (a 213), .int c0, .int c1, .ref (a 214), .ref (a 215), .ref (a 207), .null, .int 0]))] sz) := by
  refine met0 (cc := cX15_thrown) (n := 1) (by decide) (Nat.le_of_ble_eq_true rfl) ?_
  intro p e s m args below meth c hx hb hr hml hown ht hlocks hnm hP0 hD0 hK hZ hsz hz ls hl
  subst hsz
  have hA : ∀ q : Nat, s.heap.size ≤ q → va_A [((a 200), .inr (21, [.int 0, .ref (a 201), .ref (a 202), .ref (a 203), .ref (a 204), .ref (a 205), .ref (a 206), .int 0, .int 0, .int 0, .int 0, .ref (a 208), .ref (a 209), .ref (a 210), .ref (a 211), .ref (a 212), .int 4, .int 12, .int (-1), .int 0, .ref (g 200), .ref (a 213), .int c0, .int c1, .ref (a 214), .ref (a 215), .ref (a 207), .null, .int 0]))] s.heap.size q := Anw
  have hAz : ∀ q, va_A [((a 200), .inr (21, [.int 0, .ref (a 201), .ref (a 202), .ref (a 203), .ref (a 204), .ref (a 205), .ref (a 206), .int 0, .int 0, .int 0, .int 0, .ref (a 208), .ref (a 209), .ref (a 210), .ref (a 211), .ref (a 212), .int 4, .int 12, .int (-1), .int 0, .ref (g 200), .ref (a 213), .int c0, .int c1, .ref (a 214), .ref (a 215), .ref (a 207), .null, .int 0]))] s.heap.size q → z0 ≤ q := Awz hz hD0
  have hS : va_S (va_A [((a 200), .inr (21, [.int 0, .ref (a 201), .ref (a 202), .ref (a 203), .ref (a 204), .ref (a 205), .ref (a 206), .int 0, .int 0, .int 0, .int 0, .ref (a 208), .ref (a 209), .ref (a 210), .ref (a 211), .ref (a 212), .int 4, .int 12, .int (-1), .int 0, .ref (g 200), .ref (a 213), .int c0, .int c1, .ref (a 214), .ref (a 215), .ref (a 207), .null, .int 0]))] s.heap.size) s.heap s.heap [] := va_S.rf
  have hD : va_D (va_A [((a 200), .inr (21, [.int 0, .ref (a 201), .ref (a 202), .ref (a 203), .ref (a 204), .ref (a 205), .ref (a 206), .int 0, .int 0, .int 0, .int 0, .ref (a 208), .ref (a 209), .ref (a 210), .ref (a 211), .ref (a 212), .int 4, .int 12, .int (-1), .int 0, .ref (g 200), .ref (a 213), .int c0, .int c1, .ref (a 214), .ref (a 215), .ref (a 207), .null, .int 0]))] s.heap.size) [((a 200), .inr (21, [.int 0, .ref (a 201), .ref (a 202), .ref (a 203), .ref (a 204), .ref (a 205), .ref (a 206), .int 0, .int 0, .int 0, .int 0, .ref (a 208), .ref (a 209), .ref (a 210), .ref (a 211), .ref (a 212), .int 4, .int 12, .int (-1), .int 0, .ref (g 200), .ref (a 213), .int c0, .int c1, .ref (a 214), .ref (a 215), .ref (a 207), .null, .int 0]))] := hD0.self
  have hP : va_P D vwCl [((a 200), .inr (21, [.int 0, .ref (a 201), .ref (a 202), .ref (a 203), .ref (a 204), .ref (a 205), .ref (a 206), .int 0, .int 0, .int 0, .int 0, .ref (a 208), .ref (a 209), .ref (a 210), .ref (a 211), .ref (a 212), .int 4, .int 12, .int (-1), .int 0, .ref (g 200), .ref (a 213), .int c0, .int c1, .ref (a 214), .ref (a 215), .ref (a 207), .null, .int 0]))] s.heap := hP0
  have hl : lv_has ls 1 [(0, .ref (a 200))] := hl
  refine lv_aload_n hx hb dX15_thrown_0 rfl (lv_at hl 0 rfl) ?_
  refine va_get (D := D) (ci := 21) (v := .int 0) (C := RX15) (T := TX15) (N := 29) hx hb ht in_X15 hown hK.1 hP 0 rfl rfl 0 (by decide) (ht _ w_303) (fun _ h9 => h9) rfl dX15_thrown_1 ?_
  have hP9 := hP.sub (ws' := [((a 200), .inr (21, [.int 0, .ref (a 201), .ref (a 202), .ref (a 203), .ref (a 204), .ref (a 205), .ref (a 206), .int 0, .int 0, .int 0, .int 0, .ref (a 208), .ref (a 209), .ref (a 210), .ref (a 211), .ref (a 212), .int 4, .int 12, .int (-1), .int 0, .ref (g 200), .ref (a 213), .int c0, .int c1, .ref (a 214), .ref (a 215), .ref (a 207), .null, .int 0]))]) [0] rfl
  have hD9 := hD.sub (ws' := [((a 200), .inr (21, [.int 0, .ref (a 201), .ref (a 202), .ref (a 203), .ref (a 204), .ref (a 205), .ref (a 206), .int 0, .int 0, .int 0, .int 0, .ref (a 208), .ref (a 209), .ref (a 210), .ref (a 211), .ref (a 212), .int 4, .int 12, .int (-1), .int 0, .ref (g 200), .ref (a 213), .int c0, .int c1, .ref (a 214), .ref (a 215), .ref (a 207), .null, .int 0]))]) [0] (by decide) rfl
  refine W.widen (k := 0) (n := 0) (Nat.le_of_ble_eq_true rfl) (Nat.le_of_ble_eq_true rfl) ?_
  exact W.iret (v := 0) hx hb hr (fun t ht9 hW9 => ⟨⟨0, (), rfl, ⟨rfl, trivial⟩, ⟨(by rw [ht9]; exact hP9), hD9⟩⟩, hS.F ht9⟩) hS.2.2 dX15_thrown_4 hlocks
set_option maxHeartbeats 4000000 in
set_option maxRecDepth 100000 in
theorem lw_case_59 {p : Program} {l : Launch} {e : Env} {s : State} {m : MethodId} {below : List Frame} {meth : Method} {c : Code} {H : Heap} {locs : List Loc} {ls : Array Slot} {Q : State → Prop} {D : va_G} {g : Nat → ClassId} {z0 b : Nat} {xs : Nat → Int32} {a : Nat → Nat} {o1 o2 : Nat} (hfl : l.stackTraces = false) (hx : p.tables.exec = Jvm.exec) (hb : c.code = cL_law) (hml : c.maxLocals = 9) (hown : s.vm.findClass RL = some m.cls) (ht : ∀ w ∈ TG, w.before #[Value.ref b] s = true) (hX : va_X b 6 xs s s.heap) (hbl : b < s.heap.size) (hbA : ¬ va_A [] s.heap.size b) (hK : KK D g s) (hZ : ZZ g z0 s) (hz : z0 ≤ s.heap.size) (hAz : ∀ q, va_A [] s.heap.size q → z0 ≤ q) (hP : va_P D vwCl (lwW a g o1 o2) H) (hD : va_D (va_A [] s.heap.size) (lwW a g o1 o2)) (hS : va_S (va_A [] s.heap.size) s.heap H locs) (hl : lv_has ls 9 [(0, .ref b), (1, .ref (a 0)), (2, .ref (a 200)), (3, .ref o1), (4, .ref o2), (5, .int 0)])
    (kk : ∀ (H : Heap) (locs : List Loc) (ls : Array Slot), va_S (va_A [] s.heap.size) s.heap H locs → lv_has ls 9 [(5, .int 0), (0, .ref b)] → W p l e room_1 s m #[Value.ref b] below meth c H locs (200 + 300) (8000 + 2000) Q (F0 m 4264 ls [])) :
    W p l e room_1 s m #[Value.ref b] below meth c H locs 200 8000 Q (F0 m 3547 ls []) := by
  have hA : ∀ q : Nat, s.heap.size ≤ q → va_A [] s.heap.size q := Anw
  have hP := hP.sub (ws' := [((a 0), f_x a), ((a 61), .inl (g 0, 12, .inl (fun _ => 0))), ((a 62), .inl (g 0, 12, .inl (fun _ => 0))), ((a 10), f_wires a), ((a 200), f_m a g), ((a 214), .inl (g 0, 12, .inl (fun _ => 0))), ((a 215), .inl (g 6, 12, .inr (.inr (.inr (.inr (fun i => if i < 12 then some (a (224 + i)) else none)))))), ((a 224), .inl (g 3, 12, .inl (fun _ => 0))), ((a 225), .inl (g 3, 12, .inl (fun _ => 0))), ((a 226), .inl (g 3, 12, .inl (fun _ => 0))), ((a 227), .inl (g 3, 12, .inl (fun _ => 0))), ((a 228), .inl (g 3, 12, .inl (fun _ => 0))), ((a 229), .inl (g 3, 12, .inl (fun _ => 0))), ((a 230), .inl (g 3, 12, .inl (fun _ => 0))), ((a 231), .inl (g 3, 12, .inl (fun _ => 0))), ((a 232), .inl (g 3, 12, .inl (fun _ => 0))), ((a 233), .inl (g 3, 12, .inl (fun _ => 0))), ((a 234), .inl (g 3, 12, .inl (fun _ => 0))), ((a 235), .inl (g 3, 12, .inl (fun _ => 0))), (o1, .inl (g 1, 1, .inr (.inl (fun _ => 0))))]) [0, 19, 20, 21, 26, 38, 48, 49, 50, 51, 52, 53, 54, 55, 56, 57, 58, 59, 60, 61] rfl
  have hD := hD.sub (ws' := [((a 0), f_x a), ((a 61), .inl (g 0, 12, .inl (fun _ => 0))), ((a 62), .inl (g 0, 12, .inl (fun _ => 0))), ((a 10), f_wires a), ((a 200), f_m a g), ((a 214), .inl (g 0, 12, .inl (fun _ => 0))), ((a 215), .inl (g 6, 12, .inr (.inr (.inr (.inr (fun i => if i < 12 then some (a (224 + i)) else none)))))), ((a 224), .inl (g 3, 12, .inl (fun _ => 0))), ((a 225), .inl (g 3, 12, .inl (fun _ => 0))), ((a 226), .inl (g 3, 12, .inl (fun _ => 0))), ((a 227), .inl (g 3, 12, .inl (fun _ => 0))), ((a 228), .inl (g 3, 12, .inl (fun _ => 0))), ((a 229), .inl (g 3, 12, .inl (fun _ => 0))), ((a 230), .inl (g 3, 12, .inl (fun _ => 0))), ((a 231), .inl (g 3, 12, .inl (fun _ => 0))), ((a 232), .inl (g 3, 12, .inl (fun _ => 0))), ((a 233), .inl (g 3, 12, .inl (fun _ => 0))), ((a 234), .inl (g 3, 12, .inl (fun _ => 0))), ((a 235), .inl (g 3, 12, .inl (fun _ => 0))), (o1, .inl (g 1, 1, .inr (.inl (fun _ => 0))))]) [0, 19, 20, 21, 26, 38, 48, 49, 50, 51, 52, 53, 54, 55, 56, 57, 58, 59, 60, 61] (by decide) rfl
  refine lv_aload_n hx hb dL_law_3547 rfl (lv_at hl 1 rfl) ?_
  refine lv_aload_n hx hb dL_law_3548 rfl (lv_at hl 0 rfl) ?_
  refine lv_iload hx hb dL_law_3549 (lv_at hl 5 rfl) ?_
  refine lv_iconst (v := 1) hx hb dL_law_3551 (by decide) ?_
  refine lv_iadd hx hb dL_law_3552 ?_
  refine r_topi (v := 1) (by decide) ?_
  refine va_sld hx hb hX hbl hbA hS (by unfold vp_in; decide) dL_law_3553 ?_
  refine r_topi (v := xs 1) (congrArg xs (by decide)) ?_
  refine lv_aload_n hx hb dL_law_3554 rfl (lv_at hl 0 rfl) ?_
  refine lv_iload hx hb dL_law_3555 (lv_at hl 5 rfl) ?_
  refine lv_iconst (v := 2) hx hb dL_law_3557 (by decide) ?_
  refine lv_iadd hx hb dL_law_3558 ?_
  refine r_topi (v := 2) (by decide) ?_
  refine va_sld hx hb hX hbl hbA hS (by unfold vp_in; decide) dL_law_3559 ?_
  refine r_topi (v := xs 2) (congrArg xs (by decide)) ?_
  refine lv_i2c (v := ((xs 2).toUInt32 % 65536).toInt32) hx hb dL_law_3560 rfl ?_
  refine lv_aload_n hx hb dL_law_3561 rfl (lv_at hl 3 rfl) ?_
  have hPc : va_P D vwCl [(o1, .inl (g 1, 1, .inr (.inl (fun _ => 0)))), ((a 0), f_x a), ((a 10), f_wires a), ((a 61), .inl (g 0, 12, .inl (fun _ => 0))), ((a 62), .inl (g 0, 12, .inl (fun _ => 0)))] _ := hP.sub (ws' := [(o1, .inl (g 1, 1, .inr (.inl (fun _ => 0)))), ((a 0), f_x a), ((a 10), f_wires a), ((a 61), .inl (g 0, 12, .inl (fun _ => 0))), ((a 62), .inl (g 0, 12, .inl (fun _ => 0)))]) [19, 0, 3, 1, 2] rfl
  have hDc : va_D (fun q => z0 ≤ q) [(o1, .inl (g 1, 1, .inr (.inl (fun _ => 0)))), ((a 0), f_x a), ((a 10), f_wires a), ((a 61), .inl (g 0, 12, .inl (fun _ => 0))), ((a 62), .inl (g 0, 12, .inl (fun _ => 0)))] := (hD.to hAz).pick (ws' := [(o1, .inl (g 1, 1, .inr (.inl (fun _ => 0)))), ((a 0), f_x a), ((a 10), f_wires a), ((a 61), .inl (g 0, 12, .inl (fun _ => 0))), ((a 62), .inl (g 0, 12, .inl (fun _ => 0)))]) [19, 0, 3, 1, 2] (by decide) rfl
  have hFc := va_free (wc := [(o1, .inl (g 1, 1, .inr (.inl (fun _ => 0)))), ((a 0), f_x a), ((a 10), f_wires a), ((a 61), .inl (g 0, 12, .inl (fun _ => 0))), ((a 62), .inl (g 0, 12, .inl (fun _ => 0)))]) hD hS hA [19, 0, 3, 1, 2] rfl
  refine va_calli (vx_runSW (As := [.ref (a 0), .int (xs 1), .int (((xs 2).toUInt32 % 65536).toInt32), .ref o1]) (rest := []) ⟨hx, hb, hml, hown, ht⟩ (k_L_board l hfl D g z0 _ a (xs 1) (((xs 2).toUInt32 % 65536).toInt32) o1 (isC_i2c _)) (vx_cwSW 4 ht (gS w_1150 w_1152 w_767 w_1151) rfl rfl rfl (by decide +kernel) (le2 rfl rfl)) ⟨PP.blind, PP.mk' hK hZ hz hAz hS hPc hDc⟩ rfl rfl hl.1 rfl (lv_room (Nat.le_of_ble_eq_true rfl)) dL_law_3562 (le2 rfl rfl)) hS (fun q _ h => hFc q h) hFc (fun r u t H locs ht1 hvm hw hB hz1 hk1 hS => ?_)
  rcases hw with hw | hw
  · obtain ⟨rfl, hw⟩ := hw
    rcases hw with hw | hw | hw
    · have c_1 := hw
      obtain ⟨hP1, hD1⟩ := hB
      rw [ht1] at hP1
      obtain ⟨hP, hD⟩ := va_join (wr := [((a 200), f_m a g), ((a 214), .inl (g 0, 12, .inl (fun _ => 0))), ((a 215), .inl (g 6, 12, .inr (.inr (.inr (.inr (fun i => if i < 12 then some (a (224 + i)) else none)))))), ((a 224), .inl (g 3, 12, .inl (fun _ => 0))), ((a 225), .inl (g 3, 12, .inl (fun _ => 0))), ((a 226), .inl (g 3, 12, .inl (fun _ => 0))), ((a 227), .inl (g 3, 12, .inl (fun _ => 0))), ((a 228), .inl (g 3, 12, .inl (fun _ => 0))), ((a 229), .inl (g 3, 12, .inl (fun _ => 0))), ((a 230), .inl (g 3, 12, .inl (fun _ => 0))), ((a 231), .inl (g 3, 12, .inl (fun _ => 0))), ((a 232), .inl (g 3, 12, .inl (fun _ => 0))), ((a 233), .inl (g 3, 12, .inl (fun _ => 0))), ((a 234), .inl (g 3, 12, .inl (fun _ => 0))), ((a 235), .inl (g 3, 12, .inl (fun _ => 0)))]) (w1 := [(o1, .inl (g 1, 1, .inr (.inl (fun _ => 0))))]) hP hD [19, 0, 3, 1, 2] [4, 5, 6, 7, 8, 9, 10, 11, 12, 13, 14, 15, 16, 17, 18] rfl rfl (by decide) (by decide) hk1 hFc hP1 hD1
      have hP : va_P D vwCl [((a 200), f_m a g), ((a 214), .inl (g 0, 12, .inl (fun _ => 0))), ((a 215), .inl (g 6, 12, .inr (.inr (.inr (.inr (fun i => if i < 12 then some (a (224 + i)) else none)))))), ((a 224), .inl (g 3, 12, .inl (fun _ => 0))), ((a 225), .inl (g 3, 12, .inl (fun _ => 0))), ((a 226), .inl (g 3, 12, .inl (fun _ => 0))), ((a 227), .inl (g 3, 12, .inl (fun _ => 0))), ((a 228), .inl (g 3, 12, .inl (fun _ => 0))), ((a 229), .inl (g 3, 12, .inl (fun _ => 0))), ((a 230), .inl (g 3, 12, .inl (fun _ => 0))), ((a 231), .inl (g 3, 12, .inl (fun _ => 0))), ((a 232), .inl (g 3, 12, .inl (fun _ => 0))), ((a 233), .inl (g 3, 12, .inl (fun _ => 0))), ((a 234), .inl (g 3, 12, .inl (fun _ => 0))), ((a 235), .inl (g 3, 12, .inl (fun _ => 0))), (o1, .inl (g 1, 1, .inr (.inl (fun _ => 0))))] H := hP
      have hD : va_D (va_A [] s.heap.size) [((a 200), f_m a g), ((a 214), .inl (g 0, 12, .inl (fun _ => 0))), ((a 215), .inl (g 6, 12, .inr (.inr (.inr (.inr (fun i => if i < 12 then some (a (224 + i)) else none)))))), ((a 224), .inl (g 3, 12, .inl (fun _ => 0))), ((a 225), .inl (g 3, 12, .inl (fun _ => 0))), ((a 226), .inl (g 3, 12, .inl (fun _ => 0))), ((a 227), .inl (g 3, 12, .inl (fun _ => 0))), ((a 228), .inl (g 3, 12, .inl (fun _ => 0))), ((a 229), .inl (g 3, 12, .inl (fun _ => 0))), ((a 230), .inl (g 3, 12, .inl (fun _ => 0))), ((a 231), .inl (g 3, 12, .inl (fun _ => 0))), ((a 232), .inl (g 3, 12, .inl (fun _ => 0))), ((a 233), .inl (g 3, 12, .inl (fun _ => 0))), ((a 234), .inl (g 3, 12, .inl (fun _ => 0))), ((a 235), .inl (g 3, 12, .inl (fun _ => 0))), (o1, .inl (g 1, 1, .inr (.inl (fun _ => 0))))] := hD
      refine lv_istore (lv' := [(6, .int 1), (0, .ref b), (1, .ref (a 0)), (2, .ref (a 200)), (3, .ref o1), (4, .ref o2), (5, .int 0)]) hx hb dL_law_3565 hl (by decide) rfl (fun ls hl => ?_)
      refine lv_aload_n hx hb dL_law_3567 rfl (lv_at hl 3 rfl) ?_
      refine lv_aload_n hx hb dL_law_3568 rfl (lv_at hl 1 rfl) ?_
      refine lv_iload hx hb dL_law_3569 (lv_at hl 6 rfl) ?_
      refine lv_iconst (v := 1) hx hb dL_law_3571 (by decide) ?_
      refine lv_iadd hx hb dL_law_3572 ?_
      refine r_topi (v := 1) (by decide) ?_
      refine va_sld hx hb hX hbl hbA hS (by unfold vp_in; decide) dL_law_3573 ?_
      refine r_topi (v := xs 1) (congrArg xs (by decide)) ?_
      refine lv_aload_n hx hb dL_law_3574 rfl (lv_at hl 1 rfl) ?_
      refine lv_iload hx hb dL_law_3575 (lv_at hl 6 rfl) ?_
      refine lv_iconst (v := 2) hx hb dL_law_3577 (by decide) ?_
      refine lv_iadd hx hb dL_law_3578 ?_
      refine r_topi (v := 2) (by decide) ?_
      refine va_sld hx hb hX hbl hbA hS (by unfold vp_in; decide) dL_law_3579 ?_
      refine r_topi (v := xs 2) (congrArg xs (by decide)) ?_
      refine lv_i2c (v := ((xs 2).toUInt32 % 65536).toInt32) hx hb dL_law_3580 rfl ?_
      have hPc : va_P D vwCl [((a 200), f_m a g), ((a 214), .inl (g 0, 12, .inl (fun _ => 0))), ((a 215), .inl (g 6, 12, .inr (.inr (.inr (.inr (fun i => if i < 12 then some (a (224 + i)) else none)))))), ((a 224), .inl (g 3, 12, .inl (fun _ => 0))), ((a 225), .inl (g 3, 12, .inl (fun _ => 0))), ((a 226), .inl (g 3, 12, .inl (fun _ => 0))), ((a 227), .inl (g 3, 12, .inl (fun _ => 0))), ((a 228), .inl (g 3, 12, .inl (fun _ => 0))), ((a 229), .inl (g 3, 12, .inl (fun _ => 0))), ((a 230), .inl (g 3, 12, .inl (fun _ => 0))), ((a 231), .inl (g 3, 12, .inl (fun _ => 0))), ((a 232), .inl (g 3, 12, .inl (fun _ => 0))), ((a 233), .inl (g 3, 12, .inl (fun _ => 0))), ((a 234), .inl (g 3, 12, .inl (fun _ => 0))), ((a 235), .inl (g 3, 12, .inl (fun _ => 0)))] _ := hP.sub (ws' := [((a 200), f_m a g), ((a 214), .inl (g 0, 12, .inl (fun _ => 0))), ((a 215), .inl (g 6, 12, .inr (.inr (.inr (.inr (fun i => if i < 12 then some (a (224 + i)) else none)))))), ((a 224), .inl (g 3, 12, .inl (fun _ => 0))), ((a 225), .inl (g 3, 12, .inl (fun _ => 0))), ((a 226), .inl (g 3, 12, .inl (fun _ => 0))), ((a 227), .inl (g 3, 12, .inl (fun _ => 0))), ((a 228), .inl (g 3, 12, .inl (fun _ => 0))), ((a 229), .inl (g 3, 12, .inl (fun _ => 0))), ((a 230), .inl (g 3, 12, .inl (fun _ => 0))), ((a 231), .inl (g 3, 12, .inl (fun _ => 0))), ((a 232), .inl (g 3, 12, .inl (fun _ => 0))), ((a 233), .inl (g 3, 12, .inl (fun _ => 0))), ((a 234), .inl (g 3, 12, .inl (fun _ => 0))), ((a 235), .inl (g 3, 12, .inl (fun _ => 0)))]) [0, 1, 2, 3, 4, 5, 6, 7, 8, 9, 10, 11, 12, 13, 14] rfl
      have hDc : va_D (fun q => z0 ≤ q) [((a 200), f_m a g), ((a 214), .inl (g 0, 12, .inl (fun _ => 0))), ((a 215), .inl (g 6, 12, .inr (.inr (.inr (.inr (fun i => if i < 12 then some (a (224 + i)) else none)))))), ((a 224), .inl (g 3, 12, .inl (fun _ => 0))), ((a 225), .inl (g 3, 12, .inl (fun _ => 0))), ((a 226), .inl (g 3, 12, .inl (fun _ => 0))), ((a 227), .inl (g 3, 12, .inl (fun _ => 0))), ((a 228), .inl (g 3, 12, .inl (fun _ => 0))), ((a 229), .inl (g 3, 12, .inl (fun _ => 0))), ((a 230), .inl (g 3, 12, .inl (fun _ => 0))), ((a 231), .inl (g 3, 12, .inl (fun _ => 0))), ((a 232), .inl (g 3, 12, .inl (fun _ => 0))), ((a 233), .inl (g 3, 12, .inl (fun _ => 0))), ((a 234), .inl (g 3, 12, .inl (fun _ => 0))), ((a 235), .inl (g 3, 12, .inl (fun _ => 0)))] := (hD.to hAz).pick (ws' := [((a 200), f_m a g), ((a 214), .inl (g 0, 12, .inl (fun _ => 0))), ((a 215), .inl (g 6, 12, .inr (.inr (.inr (.inr (fun i => if i < 12 then some (a (224 + i)) else none)))))), ((a 224), .inl (g 3, 12, .inl (fun _ => 0))), ((a 225), .inl (g 3, 12, .inl (fun _ => 0))), ((a 226), .inl (g 3, 12, .inl (fun _ => 0))), ((a 227), .inl (g 3, 12, .inl (fun _ => 0))), ((a 228), .inl (g 3, 12, .inl (fun _ => 0))), ((a 229), .inl (g 3, 12, .inl (fun _ => 0))), ((a 230), .inl (g 3, 12, .inl (fun _ => 0))), ((a 231), .inl (g 3, 12, .inl (fun _ => 0))), ((a 232), .inl (g 3, 12, .inl (fun _ => 0))), ((a 233), .inl (g 3, 12, .inl (fun _ => 0))), ((a 234), .inl (g 3, 12, .inl (fun _ => 0))), ((a 235), .inl (g 3, 12, .inl (fun _ => 0)))]) [0, 1, 2, 3, 4, 5, 6, 7, 8, 9, 10, 11, 12, 13, 14] (by decide) rfl
      have hFc := va_free (wc := [((a 200), f_m a g), ((a 214), .inl (g 0, 12, .inl (fun _ => 0))), ((a 215), .inl (g 6, 12, .inr (.inr (.inr (.inr (fun i => if i < 12 then some (a (224 + i)) else none)))))), ((a 224), .inl (g 3, 12, .inl (fun _ => 0))), ((a 225), .inl (g 3, 12, .inl (fun _ => 0))), ((a 226), .inl (g 3, 12, .inl (fun _ => 0))), ((a 227), .inl (g 3, 12, .inl (fun _ => 0))), ((a 228), .inl (g 3, 12, .inl (fun _ => 0))), ((a 229), .inl (g 3, 12, .inl (fun _ => 0))), ((a 230), .inl (g 3, 12, .inl (fun _ => 0))), ((a 231), .inl (g 3, 12, .inl (fun _ => 0))), ((a 232), .inl (g 3, 12, .inl (fun _ => 0))), ((a 233), .inl (g 3, 12, .inl (fun _ => 0))), ((a 234), .inl (g 3, 12, .inl (fun _ => 0))), ((a 235), .inl (g 3, 12, .inl (fun _ => 0)))]) hD hS hA [0, 1, 2, 3, 4, 5, 6, 7, 8, 9, 10, 11, 12, 13, 14] rfl
      refine va_calli (va_runV (As := [.int (xs 1), .int (((xs 2).toUInt32 % 65536).toInt32)]) (rest := []) ⟨hx, hb, hml, hown, ht⟩ (k_X15_board l D g z0 _ a (xs 1) (((xs 2).toUInt32 % 65536).toInt32) (isC_i2c _)) (cwV 2 ht (gV w_1153 w_1155 w_1156 w_334 w_1154) rfl rfl rfl (by decide +kernel) (le2 rfl rfl)) ⟨PP.blind, va_recv hK.1 hP (ci := 21) (q0 := 0) rfl rfl, PP.mk' hK hZ hz hAz hS hPc hDc⟩ rfl rfl hl.1 rfl (lv_room (Nat.le_of_ble_eq_true rfl)) dL_law_3581 (le2 rfl rfl)) hS (fun q _ h => hFc q h) hFc (fun r u t H locs ht1 hvm hw hB hz1 hk1 hS => ?_)
      obtain ⟨u0, u1, u2⟩ := u
      rcases hw with hw | hw
      · obtain ⟨rfl, rfl, rfl, rfl, hw⟩ := hw
        rcases hw with hw | hw | hw
        · have c_2 := hw
          obtain ⟨hP1, hD1⟩ := hB
          rw [ht1] at hP1
          obtain ⟨hP, hD⟩ := va_join (wr := [(o1, .inl (g 1, 1, .inr (.inl (fun _ => 0))))]) (w1 := [((a 200), .inr (21, [.int 1, .ref (a 201), .ref (a 202), .ref (a 203), .ref (a 204), .ref (a 205), .ref (a 206), .int 0, .int 0, .int 0, .int 0, .ref (a 208), .ref (a 209), .ref (a 210), .ref (a 211), .ref (a 212), .int 4, .int 12, .int (-1), .int 0, .ref (g 200), .ref (a 213), .int 0, .int 97, .ref (a 214), .ref (a 215), .ref (a 207), .null, .int 0]))]) hP hD [0, 1, 2, 3, 4, 5, 6, 7, 8, 9, 10, 11, 12, 13, 14] [15] rfl rfl (by decide) (by decide) hk1 hFc hP1 hD1
          have hP : va_P D vwCl [(o1, .inl (g 1, 1, .inr (.inl (fun _ => 0)))), ((a 200), .inr (21, [.int 1, .ref (a 201), .ref (a 202), .ref (a 203), .ref (a 204), .ref (a 205), .ref (a 206), .int 0, .int 0, .int 0, .int 0, .ref (a 208), .ref (a 209), .ref (a 210), .ref (a 211), .ref (a 212), .int 4, .int 12, .int (-1), .int 0, .ref (g 200), .ref (a 213), .int 0, .int 97, .ref (a 214), .ref (a 215), .ref (a 207), .null, .int 0]))] H := hP
          have hD : va_D (va_A [] s.heap.size) [(o1, .inl (g 1, 1, .inr (.inl (fun _ => 0)))), ((a 200), .inr (21, [.int 1, .ref (a 201), .ref (a 202), .ref (a 203), .ref (a 204), .ref (a 205), .ref (a 206), .int 0, .int 0, .int 0, .int 0, .ref (a 208), .ref (a 209), .ref (a 210), .ref (a 211), .ref (a 212), .int 4, .int 12, .int (-1), .int 0, .ref (g 200), .ref (a 213), .int 0, .int 97, .ref (a 214), .ref (a 215), .ref (a 207), .null, .int 0]))] := hD
          refine lv_istore (lv' := [(7, .int 0), (6, .int 1), (0, .ref b), (1, .ref (a 0)), (2, .ref (a 200)), (3, .ref o1), (4, .ref o2), (5, .int 0)]) hx hb dL_law_3584 hl (by decide) rfl (fun ls hl => ?_)
          refine lv_aload_n hx hb dL_law_3586 rfl (lv_at hl 4 rfl) ?_
          have hPc : va_P D vwCl [((a 200), .inr (21, [.int 1, .ref (a 201), .ref (a 202), .ref (a 203), .ref (a 204), .ref (a 205), .ref (a 206), .int 0, .int 0, .int 0, .int 0, .ref (a 208), .ref (a 209), .ref (a 210), .ref (a 211), .ref (a 212), .int 4, .int 12, .int (-1), .int 0, .ref (g 200), .ref (a 213), .int 0, .int 97, .ref (a 214), .ref (a 215), .ref (a 207), .null, .int 0]))] _ := hP.sub (ws' := [((a 200), .inr (21, [.int 1, .ref (a 201), .ref (a 202), .ref (a 203), .ref (a 204), .ref (a 205), .ref (a 206), .int 0, .int 0, .int 0, .int 0, .ref (a 208), .ref (a 209), .ref (a 210), .ref (a 211), .ref (a 212), .int 4, .int 12, .int (-1), .int 0, .ref (g 200), .ref (a 213), .int 0, .int 97, .ref (a 214), .ref (a 215), .ref (a 207), .null, .int 0]))]) [1] rfl
          have hDc : va_D (fun q => z0 ≤ q) [((a 200), .inr (21, [.int 1, .ref (a 201), .ref (a 202), .ref (a 203), .ref (a 204), .ref (a 205), .ref (a 206), .int 0, .int 0, .int 0, .int 0, .ref (a 208), .ref (a 209), .ref (a 210), .ref (a 211), .ref (a 212), .int 4, .int 12, .int (-1), .int 0, .ref (g 200), .ref (a 213), .int 0, .int 97, .ref (a 214), .ref (a 215), .ref (a 207), .null, .int 0]))] := (hD.to hAz).pick (ws' := [((a 200), .inr (21, [.int 1, .ref (a 201), .ref (a 202), .ref (a 203), .ref (a 204), .ref (a 205), .ref (a 206), .int 0, .int 0, .int 0, .int 0, .ref (a 208), .ref (a 209), .ref (a 210), .ref (a 211), .ref (a 212), .int 4, .int 12, .int (-1), .int 0, .ref (g 200), .ref (a 213), .int 0, .int 97, .ref (a 214), .ref (a 215), .ref (a 207), .null, .int 0]))]) [1] (by decide) rfl
          have hFc := va_free (wc := [((a 200), .inr (21, [.int 1, .ref (a 201), .ref (a 202), .ref (a 203), .ref (a 204), .ref (a 205), .ref (a 206), .int 0, .int 0, .int 0, .int 0, .ref (a 208), .ref (a 209), .ref (a 210), .ref (a 211), .ref (a 212), .int 4, .int 12, .int (-1), .int 0, .ref (g 200), .ref (a 213), .int 0, .int 97, .ref (a 214), .ref (a 215), .ref (a 207), .null, .int 0]))]) hD hS hA [1] rfl
          refine va_calli (va_runV (As := []) (rest := []) ⟨hx, hb, hml, hown, ht⟩ (k_X15_thrown_v2 l D g z0 _ a) (cwV 0 ht (gV w_772 w_774 w_775 w_334 w_773) rfl rfl rfl (by decide +kernel) (le2 rfl rfl)) ⟨PP.blind, va_recv hK.1 hP (ci := 21) (q0 := 1) rfl rfl, PP.mk' hK hZ hz hAz hS hPc hDc⟩ rfl rfl hl.1 rfl (lv_room (Nat.le_of_ble_eq_true rfl)) dL_law_3587 (le2 rfl rfl)) hS (fun q _ h => hFc q h) hFc (fun r u t H locs ht1 hvm hw hB hz1 hk1 hS => ?_)
          obtain ⟨rfl, hw⟩ := hw
          obtain ⟨hP1, hD1⟩ := hB
          rw [ht1] at hP1
          obtain ⟨hP, hD⟩ := va_join (wr := [(o1, .inl (g 1, 1, .inr (.inl (fun _ => 0))))]) (w1 := [((a 200), .inr (21, [.int 1, .ref (a 201), .ref (a 202), .ref (a 203), .ref (a 204), .ref (a 205), .ref (a 206), .int 0, .int 0, .int 0, .int 0, .ref (a 208), .ref (a 209), .ref (a 210), .ref (a 211), .ref (a 212), .int 4, .int 12, .int (-1), .int 0, .ref (g 200), .ref (a 213), .int 0, .int 97, .ref (a 214), .ref (a 215), .ref (a 207), .null, .int 0]))]) hP hD [1] [0] rfl rfl (by decide) (by decide) hk1 hFc hP1 hD1
          have hP : va_P D vwCl [(o1, .inl (g 1, 1, .inr (.inl (fun _ => 0)))), ((a 200), .inr (21, [.int 1, .ref (a 201), .ref (a 202), .ref (a 203), .ref (a 204), .ref (a 205), .ref (a 206), .int 0, .int 0, .int 0, .int 0, .ref (a 208), .ref (a 209), .ref (a 210), .ref (a 211), .ref (a 212), .int 4, .int 12, .int (-1), .int 0, .ref (g 200), .ref (a 213), .int 0, .int 97, .ref (a 214), .ref (a 215), .ref (a 207), .null, .int 0]))] H := hP
          have hD : va_D (va_A [] s.heap.size) [(o1, .inl (g 1, 1, .inr (.inl (fun _ => 0)))), ((a 200), .inr (21, [.int 1, .ref (a 201), .ref (a 202), .ref (a 203), .ref (a 204), .ref (a 205), .ref (a 206), .int 0, .int 0, .int 0, .int 0, .ref (a 208), .ref (a 209), .ref (a 210), .ref (a 211), .ref (a 212), .int 4, .int 12, .int (-1), .int 0, .ref (g 200), .ref (a 213), .int 0, .int 97, .ref (a 214), .ref (a 215), .ref (a 207), .null, .int 0]))] := hD
          refine lv_iload hx hb dL_law_3590 (lv_at hl 1 rfl) ?_
          refine lv_icmp_eq (tgt := 3597) hx hb dL_law_3592 (by decide) (fun c_3 => ?_) (fun c_3 => ?_)
          · refine lv_iload hx hb dL_law_3597 (lv_at hl 1 rfl) ?_
            refine lv_if_ne (tgt := 3614) hx hb dL_law_3599 (by decide) (fun c_4 => ?_) (fun c_4 => ?_)
            · refine lv_goto (tgt := 4264) hx hb dL_law_3614 (by decide) ?_
              refine W.widen (k := 200 + 300) (n := 8000 + 2000) (Nat.le_of_ble_eq_true rfl) (Nat.le_of_ble_eq_true rfl) ?_
              exact kk _ _ _ hS (lv_sub hl [7, 2] rfl)
            · exact absurd c_4 (by decide)
          · exact absurd c_3 (by decide)
        · obtain ⟨c_5, c_6⟩ := hw
          exact absurd c_1 c_5
        · obtain ⟨c_7, c_8, c_9, c_10⟩ := hw
          exact absurd c_1 c_7
      · obtain ⟨rfl, rfl, rfl, rfl, hw⟩ := hw
        rcases hw with hw | hw
        · obtain ⟨c_11, c_12, c_13⟩ := hw
          exact absurd c_1 c_11
        · obtain ⟨c_14, c_15, c_16, c_17⟩ := hw
          exact absurd c_1 c_14
    · obtain ⟨c_18, c_19⟩ := hw
      obtain ⟨hP1, hD1⟩ := hB
      rw [ht1] at hP1
      obtain ⟨hP, hD⟩ := va_join (wr := [((a 200), f_m a g), ((a 214), .inl (g 0, 12, .inl (fun _ => 0))), ((a 215), .inl (g 6, 12, .inr (.inr (.inr (.inr (fun i => if i < 12 then some (a (224 + i)) else none)))))), ((a 224), .inl (g 3, 12, .inl (fun _ => 0))), ((a 225), .inl (g 3, 12, .inl (fun _ => 0))), ((a 226), .inl (g 3, 12, .inl (fun _ => 0))), ((a 227), .inl (g 3, 12, .inl (fun _ => 0))), ((a 228), .inl (g 3, 12, .inl (fun _ => 0))), ((a 229), .inl (g 3, 12, .inl (fun _ => 0))), ((a 230), .inl (g 3, 12, .inl (fun _ => 0))), ((a 231), .inl (g 3, 12, .inl (fun _ => 0))), ((a 232), .inl (g 3, 12, .inl (fun _ => 0))), ((a 233), .inl (g 3, 12, .inl (fun _ => 0))), ((a 234), .inl (g 3, 12, .inl (fun _ => 0))), ((a 235), .inl (g 3, 12, .inl (fun _ => 0)))]) (w1 := [(o1, .inl (g 1, 1, .inr (.inl (fun _ => 0))))]) hP hD [19, 0, 3, 1, 2] [4, 5, 6, 7, 8, 9, 10, 11, 12, 13, 14, 15, 16, 17, 18] rfl rfl (by decide) (by decide) hk1 hFc hP1 hD1
      have hP : va_P D vwCl [((a 200), f_m a g), ((a 214), .inl (g 0, 12, .inl (fun _ => 0))), ((a 215), .inl (g 6, 12, .inr (.inr (.inr (.inr (fun i => if i < 12 then some (a (224 + i)) else none)))))), ((a 224), .inl (g 3, 12, .inl (fun _ => 0))), ((a 225), .inl (g 3, 12, .inl (fun _ => 0))), ((a 226), .inl (g 3, 12, .inl (fun _ => 0))), ((a 227), .inl (g 3, 12, .inl (fun _ => 0))), ((a 228), .inl (g 3, 12, .inl (fun _ => 0))), ((a 229), .inl (g 3, 12, .inl (fun _ => 0))), ((a 230), .inl (g 3, 12, .inl (fun _ => 0))), ((a 231), .inl (g 3, 12, .inl (fun _ => 0))), ((a 232), .inl (g 3, 12, .inl (fun _ => 0))), ((a 233), .inl (g 3, 12, .inl (fun _ => 0))), ((a 234), .inl (g 3, 12, .inl (fun _ => 0))), ((a 235), .inl (g 3, 12, .inl (fun _ => 0))), (o1, .inl (g 1, 1, .inr (.inl (fun _ => 0))))] H := hP
      have hD : va_D (va_A [] s.heap.size) [((a 200), f_m a g), ((a 214), .inl (g 0, 12, .inl (fun _ => 0))), ((a 215), .inl (g 6, 12, .inr (.inr (.inr (.inr (fun i => if i < 12 then some (a (224 + i)) else none)))))), ((a 224), .inl (g 3, 12, .inl (fun _ => 0))), ((a 225), .inl (g 3, 12, .inl (fun _ => 0))), ((a 226), .inl (g 3, 12, .inl (fun _ => 0))), ((a 227), .inl (g 3, 12, .inl (fun _ => 0))), ((a 228), .inl (g 3, 12, .inl (fun _ => 0))), ((a 229), .inl (g 3, 12, .inl (fun _ => 0))), ((a 230), .inl (g 3, 12, .inl (fun _ => 0))), ((a 231), .inl (g 3, 12, .inl (fun _ => 0))), ((a 232), .inl (g 3, 12, .inl (fun _ => 0))), ((a 233), .inl (g 3, 12, .inl (fun _ => 0))), ((a 234), .inl (g 3, 12, .inl (fun _ => 0))), ((a 235), .inl (g 3, 12, .inl (fun _ => 0))), (o1, .inl (g 1, 1, .inr (.inl (fun _ => 0))))] := hD
      refine lv_istore (lv' := [(6, .int 1), (0, .ref b), (1, .ref (a 0)), (2, .ref (a 200)), (3, .ref o1), (4, .ref o2), (5, .int 0)]) hx hb dL_law_3565 hl (by decide) rfl (fun ls hl => ?_)
      refine lv_aload_n hx hb dL_law_3567 rfl (lv_at hl 3 rfl) ?_
      refine lv_aload_n hx hb dL_law_3568 rfl (lv_at hl 1 rfl) ?_
      refine lv_iload hx hb dL_law_3569 (lv_at hl 6 rfl) ?_
      refine lv_iconst (v := 1) hx hb dL_law_3571 (by decide) ?_
      refine lv_iadd hx hb dL_law_3572 ?_
      refine r_topi (v := 1) (by decide) ?_
      refine va_sld hx hb hX hbl hbA hS (by unfold vp_in; decide) dL_law_3573 ?_
      refine r_topi (v := xs 1) (congrArg xs (by decide)) ?_
      refine lv_aload_n hx hb dL_law_3574 rfl (lv_at hl 1 rfl) ?_
      refine lv_iload hx hb dL_law_3575 (lv_at hl 6 rfl) ?_
      refine lv_iconst (v := 2) hx hb dL_law_3577 (by decide) ?_
      refine lv_iadd hx hb dL_law_3578 ?_
      refine r_topi (v := 2) (by decide) ?_
      refine va_sld hx hb hX hbl hbA hS (by unfold vp_in; decide) dL_law_3579 ?_
      refine r_topi (v := xs 2) (congrArg xs (by decide)) ?_
      refine lv_i2c (v := ((xs 2).toUInt32 % 65536).toInt32) hx hb dL_law_3580 rfl ?_
      have hPc : va_P D vwCl [((a 200), f_m a g), ((a 214), .inl (g 0, 12, .inl (fun _ => 0))), ((a 215), .inl (g 6, 12, .inr (.inr (.inr (.inr (fun i => if i < 12 then some (a (224 + i)) else none)))))), ((a 224), .inl (g 3, 12, .inl (fun _ => 0))), ((a 225), .inl (g 3, 12, .inl (fun _ => 0))), ((a 226), .inl (g 3, 12, .inl (fun _ => 0))), ((a 227), .inl (g 3, 12, .inl (fun _ => 0))), ((a 228), .inl (g 3, 12, .inl (fun _ => 0))), ((a 229), .inl (g 3, 12, .inl (fun _ => 0))), ((a 230), .inl (g 3, 12, .inl (fun _ => 0))), ((a 231), .inl (g 3, 12, .inl (fun _ => 0))), ((a 232), .inl (g 3, 12, .inl (fun _ => 0))), ((a 233), .inl (g 3, 12, .inl (fun _ => 0))), ((a 234), .inl (g 3, 12, .inl (fun _ => 0))), ((a 235), .inl (g 3, 12, .inl (fun _ => 0)))] _ := hP.sub (ws' := [((a 200), f_m a g), ((a 214), .inl (g 0, 12, .inl (fun _ => 0))), ((a 215), .inl (g 6, 12, .inr (.inr (.inr (.inr (fun i => if i < 12 then some (a (224 + i)) else none)))))), ((a 224), .inl (g 3, 12, .inl (fun _ => 0))), ((a 225), .inl (g 3, 12, .inl (fun _ => 0))), ((a 226), .inl (g 3, 12, .inl (fun _ => 0))), ((a 227), .inl (g 3, 12, .inl (fun _ => 0))), ((a 228), .inl (g 3, 12, .inl (fun _ => 0))), ((a 229), .inl (g 3, 12, .inl (fun _ => 0))), ((a 230), .inl (g 3, 12, .inl (fun _ => 0))), ((a 231), .inl (g 3, 12, .inl (fun _ => 0))), ((a 232), .inl (g 3, 12, .inl (fun _ => 0))), ((a 233), .inl (g 3, 12, .inl (fun _ => 0))), ((a 234), .inl (g 3, 12, .inl (fun _ => 0))), ((a 235), .inl (g 3, 12, .inl (fun _ => 0)))]) [0, 1, 2, 3, 4, 5, 6, 7, 8, 9, 10, 11, 12, 13, 14] rfl
      have hDc : va_D (fun q => z0 ≤ q) [((a 200), f_m a g), ((a 214), .inl (g 0, 12, .inl (fun _ => 0))), ((a 215), .inl (g 6, 12, .inr (.inr (.inr (.inr (fun i => if i < 12 then some (a (224 + i)) else none)))))), ((a 224), .inl (g 3, 12, .inl (fun _ => 0))), ((a 225), .inl (g 3, 12, .inl (fun _ => 0))), ((a 226), .inl (g 3, 12, .inl (fun _ => 0))), ((a 227), .inl (g 3, 12, .inl (fun _ => 0))), ((a 228), .inl (g 3, 12, .inl (fun _ => 0))), ((a 229), .inl (g 3, 12, .inl (fun _ => 0))), ((a 230), .inl (g 3, 12, .inl (fun _ => 0))), ((a 231), .inl (g 3, 12, .inl (fun _ => 0))), ((a 232), .inl (g 3, 12, .inl (fun _ => 0))), ((a 233), .inl (g 3, 12, .inl (fun _ => 0))), ((a 234), .inl (g 3, 12, .inl (fun _ => 0))), ((a 235), .inl (g 3, 12, .inl (fun _ => 0)))] := (hD.to hAz).pick (ws' := [((a 200), f_m a g), ((a 214), .inl (g 0, 12, .inl (fun _ => 0))), ((a 215), .inl (g 6, 12, .inr (.inr (.inr (.inr (fun i => if i < 12 then some (a (224 + i)) else none)))))), ((a 224), .inl (g 3, 12, .inl (fun _ => 0))), ((a 225), .inl (g 3, 12, .inl (fun _ => 0))), ((a 226), .inl (g 3, 12, .inl (fun _ => 0))), ((a 227), .inl (g 3, 12, .inl (fun _ => 0))), ((a 228), .inl (g 3, 12, .inl (fun _ => 0))), ((a 229), .inl (g 3, 12, .inl (fun _ => 0))), ((a 230), .inl (g 3, 12, .inl (fun _ => 0))), ((a 231), .inl (g 3, 12, .inl (fun _ => 0))), ((a 232), .inl (g 3, 12, .inl (fun _ => 0))), ((a 233), .inl (g 3, 12, .inl (fun _ => 0))), ((a 234), .inl (g 3, 12, .inl (fun _ => 0))), ((a 235), .inl (g 3, 12, .inl (fun _ => 0)))]) [0, 1, 2, 3, 4, 5, 6, 7, 8, 9, 10, 11, 12, 13, 14] (by decide) rfl
      have hFc := va_free (wc := [((a 200), f_m a g), ((a 214), .inl (g 0, 12, .inl (fun _ => 0))), ((a 215), .inl (g 6, 12, .inr (.inr (.inr (.inr (fun i => if i < 12 then some (a (224 + i)) else none)))))), ((a 224), .inl (g 3, 12, .inl (fun _ => 0))), ((a 225), .inl (g 3, 12, .inl (fun _ => 0))), ((a 226), .inl (g 3, 12, .inl (fun _ => 0))), ((a 227), .inl (g 3, 12, .inl (fun _ => 0))), ((a 228), .inl (g 3, 12, .inl (fun _ => 0))), ((a 229), .inl (g 3, 12, .inl (fun _ => 0))), ((a 230), .inl (g 3, 12, .inl (fun _ => 0))), ((a 231), .inl (g 3, 12, .inl (fun _ => 0))), ((a 232), .inl (g 3, 12, .inl (fun _ => 0))), ((a 233), .inl (g 3, 12, .inl (fun _ => 0))), ((a 234), .inl (g 3, 12, .inl (fun _ => 0))), ((a 235), .inl (g 3, 12, .inl (fun _ => 0)))]) hD hS hA [0, 1, 2, 3, 4, 5, 6, 7, 8, 9, 10, 11, 12, 13, 14] rfl
      refine va_calli (va_runV (As := [.int (xs 1), .int (((xs 2).toUInt32 % 65536).toInt32)]) (rest := []) ⟨hx, hb, hml, hown, ht⟩ (k_X15_board l D g z0 _ a (xs 1) (((xs 2).toUInt32 % 65536).toInt32) (isC_i2c _)) (cwV 2 ht (gV w_1153 w_1155 w_1156 w_334 w_1154) rfl rfl rfl (by decide +kernel) (le2 rfl rfl)) ⟨PP.blind, va_recv hK.1 hP (ci := 21) (q0 := 0) rfl rfl, PP.mk' hK hZ hz hAz hS hPc hDc⟩ rfl rfl hl.1 rfl (lv_room (Nat.le_of_ble_eq_true rfl)) dL_law_3581 (le2 rfl rfl)) hS (fun q _ h => hFc q h) hFc (fun r u t H locs ht1 hvm hw hB hz1 hk1 hS => ?_)
      obtain ⟨u0, u1, u2⟩ := u
      rcases hw with hw | hw
      · obtain ⟨rfl, rfl, rfl, rfl, hw⟩ := hw
        rcases hw with hw | hw | hw
        · have c_20 := hw
          exact absurd c_20 c_18
        · obtain ⟨c_21, c_22⟩ := hw
          obtain ⟨hP1, hD1⟩ := hB
          rw [ht1] at hP1
          obtain ⟨hP, hD⟩ := va_join (wr := [(o1, .inl (g 1, 1, .inr (.inl (fun _ => 0))))]) (w1 := [((a 200), .inr (21, [.int 1, .ref (a 201), .ref (a 202), .ref (a 203), .ref (a 204), .ref (a 205), .ref (a 206), .int 0, .int 0, .int 0, .int 0, .ref (a 208), .ref (a 209), .ref (a 210), .ref (a 211), .ref (a 212), .int 4, .int 12, .int (-1), .int 0, .ref (g 200), .ref (a 213), .int 0, .int 97, .ref (a 214), .ref (a 215), .ref (a 207), .null, .int 0]))]) hP hD [0, 1, 2, 3, 4, 5, 6, 7, 8, 9, 10, 11, 12, 13, 14] [15] rfl rfl (by decide) (by decide) hk1 hFc hP1 hD1
          have hP : va_P D vwCl [(o1, .inl (g 1, 1, .inr (.inl (fun _ => 0)))), ((a 200), .inr (21, [.int 1, .ref (a 201), .ref (a 202), .ref (a 203), .ref (a 204), .ref (a 205), .ref (a 206), .int 0, .int 0, .int 0, .int 0, .ref (a 208), .ref (a 209), .ref (a 210), .ref (a 211), .ref (a 212), .int 4, .int 12, .int (-1), .int 0, .ref (g 200), .ref (a 213), .int 0, .int 97, .ref (a 214), .ref (a 215), .ref (a 207), .null, .int 0]))] H := hP
          have hD : va_D (va_A [] s.heap.size) [(o1, .inl (g 1, 1, .inr (.inl (fun _ => 0)))), ((a 200), .inr (21, [.int 1, .ref (a 201), .ref (a 202), .ref (a 203), .ref (a 204), .ref (a 205), .ref (a 206), .int 0, .int 0, .int 0, .int 0, .ref (a 208), .ref (a 209), .ref (a 210), .ref (a 211), .ref (a 212), .int 4, .int 12, .int (-1), .int 0, .ref (g 200), .ref (a 213), .int 0, .int 97, .ref (a 214), .ref (a 215), .ref (a 207), .null, .int 0]))] := hD
          refine lv_istore (lv' := [(7, .int 0), (6, .int 1), (0, .ref b), (1, .ref (a 0)), (2, .ref (a 200)), (3, .ref o1), (4, .ref o2), (5, .int 0)]) hx hb dL_law_3584 hl (by decide) rfl (fun ls hl => ?_)
          refine lv_aload_n hx hb dL_law_3586 rfl (lv_at hl 4 rfl) ?_
          have hPc : va_P D vwCl [((a 200), .inr (21, [.int 1, .ref (a 201), .ref (a 202), .ref (a 203), .ref (a 204), .ref (a 205), .ref (a 206), .int 0, .int 0, .int 0, .int 0, .ref (a 208), .ref (a 209), .ref (a 210), .ref (a 211), .ref (a 212), .int 4, .int 12, .int (-1), .int 0, .ref (g 200), .ref (a 213), .int 0, .int 97, .ref (a 214), .ref (a 215), .ref (a 207), .null, .int 0]))] _ := hP.sub (ws' := [((a 200), .inr (21, [.int 1, .ref (a 201), .ref (a 202), .ref (a 203), .ref (a 204), .ref (a 205), .ref (a 206), .int 0, .int 0, .int 0, .int 0, .ref (a 208), .ref (a 209), .ref (a 210), .ref (a 211), .ref (a 212), .int 4, .int 12, .int (-1), .int 0, .ref (g 200), .ref (a 213), .int 0, .int 97, .ref (a 214), .ref (a 215), .ref (a 207), .null, .int 0]))]) [1] rfl
          have hDc : va_D (fun q => z0 ≤ q) [((a 200), .inr (21, [.int 1, .ref (a 201), .ref (a 202), .ref (a 203), .ref (a 204), .ref (a 205), .ref (a 206), .int 0, .int 0, .int 0, .int 0, .ref (a 208), .ref (a 209), .ref (a 210), .ref (a 211), .ref (a 212), .int 4, .int 12, .int (-1), .int 0, .ref (g 200), .ref (a 213), .int 0, .int 97, .ref (a 214), .ref (a 215), .ref (a 207), .null, .int 0]))] := (hD.to hAz).pick (ws' := [((a 200), .inr (21, [.int 1, .ref (a 201), .ref (a 202), .ref (a 203), .ref (a 204), .ref (a 205), .ref (a 206), .int 0, .int 0, .int 0, .int 0, .ref (a 208), .ref (a 209), .ref (a 210), .ref (a 211), .ref (a 212), .int 4, .int 12, .int (-1), .int 0, .ref (g 200), .ref (a 213), .int 0, .int 97, .ref (a 214), .ref (a 215), .ref (a 207), .null, .int 0]))]) [1] (by decide) rfl
          have hFc := va_free (wc := [((a 200), .inr (21, [.int 1, .ref (a 201), .ref (a 202), .ref (a 203), .ref (a 204), .ref (a 205), .ref (a 206), .int 0, .int 0, .int 0, .int 0, .ref (a 208), .ref (a 209), .ref (a 210), .ref (a 211), .ref (a 212), .int 4, .int 12, .int (-1), .int 0, .ref (g 200), .ref (a 213), .int 0, .int 97, .ref (a 214), .ref (a 215), .ref (a 207), .null, .int 0]))]) hD hS hA [1] rfl
          refine va_calli (va_runV (As := []) (rest := []) ⟨hx, hb, hml, hown, ht⟩ (k_X15_thrown_v2 l D g z0 _ a) (cwV 0 ht (gV w_772 w_774 w_775 w_334 w_773) rfl rfl rfl (by decide +kernel) (le2 rfl rfl)) ⟨PP.blind, va_recv hK.1 hP (ci := 21) (q0 := 1) rfl rfl, PP.mk' hK hZ hz hAz hS hPc hDc⟩ rfl rfl hl.1 rfl (lv_room (Nat.le_of_ble_eq_true rfl)) dL_law_3587 (le2 rfl rfl)) hS (fun q _ h => hFc q h) hFc (fun r u t H locs ht1 hvm hw hB hz1 hk1 hS => ?_)
          obtain ⟨rfl, hw⟩ := hw
          obtain ⟨hP1, hD1⟩ := hB
          rw [ht1] at hP1
          obtain ⟨hP, hD⟩ := va_join (wr := [(o1, .inl (g 1, 1, .inr (.inl (fun _ => 0))))]) (w1 := [((a 200), .inr (21, [.int 1, .ref (a 201), .ref (a 202), .ref (a 203), .ref (a 204), .ref (a 205), .ref (a 206), .int 0, .int 0, .int 0, .int 0, .ref (a 208), .ref (a 209), .ref (a 210), .ref (a 211), .ref (a 212), .int 4, .int 12, .int (-1), .int 0, .ref (g 200), .ref (a 213), .int 0, .int 97, .ref (a 214), .ref (a 215), .ref (a 207), .null, .int 0]))]) hP hD [1] [0] rfl rfl (by decide) (by decide) hk1 hFc hP1 hD1
          have hP : va_P D vwCl [(o1, .inl (g 1, 1, .inr (.inl (fun _ => 0)))), ((a 200), .inr (21, [.int 1, .ref (a 201), .ref (a 202), .ref (a 203), .ref (a 204), .ref (a 205), .ref (a 206), .int 0, .int 0, .int 0, .int 0, .ref (a 208), .ref (a 209), .ref (a 210), .ref (a 211), .ref (a 212), .int 4, .int 12, .int (-1), .int 0, .ref (g 200), .ref (a 213), .int 0, .int 97, .ref (a 214), .ref (a 215), .ref (a 207), .null, .int 0]))] H := hP
          have hD : va_D (va_A [] s.heap.size) [(o1, .inl (g 1, 1, .inr (.inl (fun _ => 0)))), ((a 200), .inr (21, [.int 1, .ref (a 201), .ref (a 202), .ref (a 203), .ref (a 204), .ref (a 205), .ref (a 206), .int 0, .int 0, .int 0, .int 0, .ref (a 208), .ref (a 209), .ref (a 210), .ref (a 211), .ref (a 212), .int 4, .int 12, .int (-1), .int 0, .ref (g 200), .ref (a 213), .int 0, .int 97, .ref (a 214), .ref (a 215), .ref (a 207), .null, .int 0]))] := hD
          refine lv_iload hx hb dL_law_3590 (lv_at hl 1 rfl) ?_
          refine lv_icmp_eq (tgt := 3597) hx hb dL_law_3592 (by decide) (fun c_23 => ?_) (fun c_23 => ?_)
          · refine lv_iload hx hb dL_law_3597 (lv_at hl 1 rfl) ?_
            refine lv_if_ne (tgt := 3614) hx hb dL_law_3599 (by decide) (fun c_24 => ?_) (fun c_24 => ?_)
            · refine lv_goto (tgt := 4264) hx hb dL_law_3614 (by decide) ?_
              refine W.widen (k := 200 + 300) (n := 8000 + 2000) (Nat.le_of_ble_eq_true rfl) (Nat.le_of_ble_eq_true rfl) ?_
              exact kk _ _ _ hS (lv_sub hl [7, 2] rfl)
            · exact absurd c_24 (by decide)
          · exact absurd c_23 (by decide)
        · obtain ⟨c_25, c_26, c_27, c_28⟩ := hw
          exact absurd (Int.le_trans (lo_nle c_19) (up_nlt c_26)) (by decide)
      · obtain ⟨rfl, rfl, rfl, rfl, hw⟩ := hw
        rcases hw with hw | hw
        · obtain ⟨c_29, c_30, c_31⟩ := hw
          exact absurd (Int.le_trans (lo_nle c_19) (up_nlt c_30)) (by decide)
        · obtain ⟨c_32, c_33, c_34, c_35⟩ := hw
          exact absurd (Int.le_trans (lo_nle c_19) (up_nlt c_33)) (by decide)
    · obtain ⟨c_36, c_37, c_38, c_39⟩ := hw
      obtain ⟨hP1, hD1⟩ := hB
      rw [ht1] at hP1
      obtain ⟨hP, hD⟩ := va_join (wr := [((a 200), f_m a g), ((a 214), .inl (g 0, 12, .inl (fun _ => 0))), ((a 215), .inl (g 6, 12, .inr (.inr (.inr (.inr (fun i => if i < 12 then some (a (224 + i)) else none)))))), ((a 224), .inl (g 3, 12, .inl (fun _ => 0))), ((a 225), .inl (g 3, 12, .inl (fun _ => 0))), ((a 226), .inl (g 3, 12, .inl (fun _ => 0))), ((a 227), .inl (g 3, 12, .inl (fun _ => 0))), ((a 228), .inl (g 3, 12, .inl (fun _ => 0))), ((a 229), .inl (g 3, 12, .inl (fun _ => 0))), ((a 230), .inl (g 3, 12, .inl (fun _ => 0))), ((a 231), .inl (g 3, 12, .inl (fun _ => 0))), ((a 232), .inl (g 3, 12, .inl (fun _ => 0))), ((a 233), .inl (g 3, 12, .inl (fun _ => 0))), ((a 234), .inl (g 3, 12, .inl (fun _ => 0))), ((a 235), .inl (g 3, 12, .inl (fun _ => 0)))]) (w1 := [(o1, .inl (g 1, 1, .inr (.inl (fun _ => 0))))]) hP hD [19, 0, 3, 1, 2] [4, 5, 6, 7, 8, 9, 10, 11, 12, 13, 14, 15, 16, 17, 18] rfl rfl (by decide) (by decide) hk1 hFc hP1 hD1
      have hP : va_P D vwCl [((a 200), f_m a g), ((a 214), .inl (g 0, 12, .inl (fun _ => 0))), ((a 215), .inl (g 6, 12, .inr (.inr (.inr (.inr (fun i => if i < 12 then some (a (224 + i)) else none)))))), ((a 224), .inl (g 3, 12, .inl (fun _ => 0))), ((a 225), .inl (g 3, 12, .inl (fun _ => 0))), ((a 226), .inl (g 3, 12, .inl (fun _ => 0))), ((a 227), .inl (g 3, 12, .inl (fun _ => 0))), ((a 228), .inl (g 3, 12, .inl (fun _ => 0))), ((a 229), .inl (g 3, 12, .inl (fun _ => 0))), ((a 230), .inl (g 3, 12, .inl (fun _ => 0))), ((a 231), .inl (g 3, 12, .inl (fun _ => 0))), ((a 232), .inl (g 3, 12, .inl (fun _ => 0))), ((a 233), .inl (g 3, 12, .inl (fun _ => 0))), ((a 234), .inl (g 3, 12, .inl (fun _ => 0))), ((a 235), .inl (g 3, 12, .inl (fun _ => 0))), (o1, .inl (g 1, 1, .inr (.inl (fun _ => 0))))] H := hP
      have hD : va_D (va_A [] s.heap.size) [((a 200), f_m a g), ((a 214), .inl (g 0, 12, .inl (fun _ => 0))), ((a 215), .inl (g 6, 12, .inr (.inr (.inr (.inr (fun i => if i < 12 then some (a (224 + i)) else none)))))), ((a 224), .inl (g 3, 12, .inl (fun _ => 0))), ((a 225), .inl (g 3, 12, .inl (fun _ => 0))), ((a 226), .inl (g 3, 12, .inl (fun _ => 0))), ((a 227), .inl (g 3, 12, .inl (fun _ => 0))), ((a 228), .inl (g 3, 12, .inl (fun _ => 0))), ((a 229), .inl (g 3, 12, .inl (fun _ => 0))), ((a 230), .inl (g 3, 12, .inl (fun _ => 0))), ((a 231), .inl (g 3, 12, .inl (fun _ => 0))), ((a 232), .inl (g 3, 12, .inl (fun _ => 0))), ((a 233), .inl (g 3, 12, .inl (fun _ => 0))), ((a 234), .inl (g 3, 12, .inl (fun _ => 0))), ((a 235), .inl (g 3, 12, .inl (fun _ => 0))), (o1, .inl (g 1, 1, .inr (.inl (fun _ => 0))))] := hD
      refine lv_istore (lv' := [(6, .int 1), (0, .ref b), (1, .ref (a 0)), (2, .ref (a 200)), (3, .ref o1), (4, .ref o2), (5, .int 0)]) hx hb dL_law_3565 hl (by decide) rfl (fun ls hl => ?_)
      refine lv_aload_n hx hb dL_law_3567 rfl (lv_at hl 3 rfl) ?_
      refine lv_aload_n hx hb dL_law_3568 rfl (lv_at hl 1 rfl) ?_
      refine lv_iload hx hb dL_law_3569 (lv_at hl 6 rfl) ?_
      refine lv_iconst (v := 1) hx hb dL_law_3571 (by decide) ?_
      refine lv_iadd hx hb dL_law_3572 ?_
      refine r_topi (v := 1) (by decide) ?_
      refine va_sld hx hb hX hbl hbA hS (by unfold vp_in; decide) dL_law_3573 ?_
      refine r_topi (v := xs 1) (congrArg xs (by decide)) ?_
      refine lv_aload_n hx hb dL_law_3574 rfl (lv_at hl 1 rfl) ?_
      refine lv_iload hx hb dL_law_3575 (lv_at hl 6 rfl) ?_
      refine lv_iconst (v := 2) hx hb dL_law_3577 (by decide) ?_
      refine lv_iadd hx hb dL_law_3578 ?_
      refine r_topi (v := 2) (by decide) ?_
      refine va_sld hx hb hX hbl hbA hS (by unfold vp_in; decide) dL_law_3579 ?_
      refine r_topi (v := xs 2) (congrArg xs (by decide)) ?_
      refine lv_i2c (v := ((xs 2).toUInt32 % 65536).toInt32) hx hb dL_law_3580 rfl ?_
      have hPc : va_P D vwCl [((a 200), f_m a g), ((a 214), .inl (g 0, 12, .inl (fun _ => 0))), ((a 215), .inl (g 6, 12, .inr (.inr (.inr (.inr (fun i => if i < 12 then some (a (224 + i)) else none)))))), ((a 224), .inl (g 3, 12, .inl (fun _ => 0))), ((a 225), .inl (g 3, 12, .inl (fun _ => 0))), ((a 226), .inl (g 3, 12, .inl (fun _ => 0))), ((a 227), .inl (g 3, 12, .inl (fun _ => 0))), ((a 228), .inl (g 3, 12, .inl (fun _ => 0))), ((a 229), .inl (g 3, 12, .inl (fun _ => 0))), ((a 230), .inl (g 3, 12, .inl (fun _ => 0))), ((a 231), .inl (g 3, 12, .inl (fun _ => 0))), ((a 232), .inl (g 3, 12, .inl (fun _ => 0))), ((a 233), .inl (g 3, 12, .inl (fun _ => 0))), ((a 234), .inl (g 3, 12, .inl (fun _ => 0))), ((a 235), .inl (g 3, 12, .inl (fun _ => 0)))] _ := hP.sub (ws' := [((a 200), f_m a g), ((a 214), .inl (g 0, 12, .inl (fun _ => 0))), ((a 215), .inl (g 6, 12, .inr (.inr (.inr (.inr (fun i => if i < 12 then some (a (224 + i)) else none)))))), ((a 224), .inl (g 3, 12, .inl (fun _ => 0))), ((a 225), .inl (g 3, 12, .inl (fun _ => 0))), ((a 226), .inl (g 3, 12, .inl (fun _ => 0))), ((a 227), .inl (g 3, 12, .inl (fun _ => 0))), ((a 228), .inl (g 3, 12, .inl (fun _ => 0))), ((a 229), .inl (g 3, 12, .inl (fun _ => 0))), ((a 230), .inl (g 3, 12, .inl (fun _ => 0))), ((a 231), .inl (g 3, 12, .inl (fun _ => 0))), ((a 232), .inl (g 3, 12, .inl (fun _ => 0))), ((a 233), .inl (g 3, 12, .inl (fun _ => 0))), ((a 234), .inl (g 3, 12, .inl (fun _ => 0))), ((a 235), .inl (g 3, 12, .inl (fun _ => 0)))]) [0, 1, 2, 3, 4, 5, 6, 7, 8, 9, 10, 11, 12, 13, 14] rfl
      have hDc : va_D (fun q => z0 ≤ q) [((a 200), f_m a g), ((a 214), .inl (g 0, 12, .inl (fun _ => 0))), ((a 215), .inl (g 6, 12, .inr (.inr (.inr (.inr (fun i => if i < 12 then some (a (224 + i)) else none)))))), ((a 224), .inl (g 3, 12, .inl (fun _ => 0))), ((a 225), .inl (g 3, 12, .inl (fun _ => 0))), ((a 226), .inl (g 3, 12, .inl (fun _ => 0))), ((a 227), .inl (g 3, 12, .inl (fun _ => 0))), ((a 228), .inl (g 3, 12, .inl (fun _ => 0))), ((a 229), .inl (g 3, 12, .inl (fun _ => 0))), ((a 230), .inl (g 3, 12, .inl (fun _ => 0))), ((a 231), .inl (g 3, 12, .inl (fun _ => 0))), ((a 232), .inl (g 3, 12, .inl (fun _ => 0))), ((a 233), .inl (g 3, 12, .inl (fun _ => 0))), ((a 234), .inl (g 3, 12, .inl (fun _ => 0))), ((a 235), .inl (g 3, 12, .inl (fun _ => 0)))] := (hD.to hAz).pick (ws' := [((a 200), f_m a g), ((a 214), .inl (g 0, 12, .inl (fun _ => 0))), ((a 215), .inl (g 6, 12, .inr (.inr (.inr (.inr (fun i => if i < 12 then some (a (224 + i)) else none)))))), ((a 224), .inl (g 3, 12, .inl (fun _ => 0))), ((a 225), .inl (g 3, 12, .inl (fun _ => 0))), ((a 226), .inl (g 3, 12, .inl (fun _ => 0))), ((a 227), .inl (g 3, 12, .inl (fun _ => 0))), ((a 228), .inl (g 3, 12, .inl (fun _ => 0))), ((a 229), .inl (g 3, 12, .inl (fun _ => 0))), ((a 230), .inl (g 3, 12, .inl (fun _ => 0))), ((a 231), .inl (g 3, 12, .inl (fun _ => 0))), ((a 232), .inl (g 3, 12, .inl (fun _ => 0))), ((a 233), .inl (g 3, 12, .inl (fun _ => 0))), ((a 234), .inl (g 3, 12, .inl (fun _ => 0))), ((a 235), .inl (g 3, 12, .inl (fun _ => 0)))]) [0, 1, 2, 3, 4, 5, 6, 7, 8, 9, 10, 11, 12, 13, 14] (by decide) rfl
      have hFc := va_free (wc := [((a 200), f_m a g), ((a 214), .inl (g 0, 12, .inl (fun _ => 0))), ((a 215), .inl (g 6, 12, .inr (.inr (.inr (.inr (fun i => if i < 12 then some (a (224 + i)) else none)))))), ((a 224), .inl (g 3, 12, .inl (fun _ => 0))), ((a 225), .inl (g 3, 12, .inl (fun _ => 0))), ((a 226), .inl (g 3, 12, .inl (fun _ => 0))), ((a 227), .inl (g 3, 12, .inl (fun _ => 0))), ((a 228), .inl (g 3, 12, .inl (fun _ => 0))), ((a 229), .inl (g 3, 12, .inl (fun _ => 0))), ((a 230), .inl (g 3, 12, .inl (fun _ => 0))), ((a 231), .inl (g 3, 12, .inl (fun _ => 0))), ((a 232), .inl (g 3, 12, .inl (fun _ => 0))), ((a 233), .inl (g 3, 12, .inl (fun _ => 0))), ((a 234), .inl (g 3, 12, .inl (fun _ => 0))), ((a 235), .inl (g 3, 12, .inl (fun _ => 0)))]) hD hS hA [0, 1, 2, 3, 4, 5, 6, 7, 8, 9, 10, 11, 12, 13, 14] rfl
      refine va_calli (va_runV (As := [.int (xs 1), .int (((xs 2).toUInt32 % 65536).toInt32)]) (rest := []) ⟨hx, hb, hml, hown, ht⟩ (k_X15_board l D g z0 _ a (xs 1) (((xs 2).toUInt32 % 65536).toInt32) (isC_i2c _)) (cwV 2 ht (gV w_1153 w_1155 w_1156 w_334 w_1154) rfl rfl rfl (by decide +kernel) (le2 rfl rfl)) ⟨PP.blind, va_recv hK.1 hP (ci := 21) (q0 := 0) rfl rfl, PP.mk' hK hZ hz hAz hS hPc hDc⟩ rfl rfl hl.1 rfl (lv_room (Nat.le_of_ble_eq_true rfl)) dL_law_3581 (le2 rfl rfl)) hS (fun q _ h => hFc q h) hFc (fun r u t H locs ht1 hvm hw hB hz1 hk1 hS => ?_)
      obtain ⟨u0, u1, u2⟩ := u
      rcases hw with hw | hw
      · obtain ⟨rfl, rfl, rfl, rfl, hw⟩ := hw
        rcases hw with hw | hw | hw
        · have c_40 := hw
          exact absurd c_40 c_36
        · obtain ⟨c_41, c_42⟩ := hw
          exact absurd (Int.le_trans (lo_lt c_42) (up_le c_37)) (by decide)
        · obtain ⟨c_43, c_44, c_45, c_46⟩ := hw
          obtain ⟨hP1, hD1⟩ := hB
          rw [ht1] at hP1
          obtain ⟨hP, hD⟩ := va_join (wr := [(o1, .inl (g 1, 1, .inr (.inl (fun _ => 0))))]) (w1 := [((a 200), .inr (21, [.int 1, .ref (a 201), .ref (a 202), .ref (a 203), .ref (a 204), .ref (a 205), .ref (a 206), .int 0, .int 0, .int 0, .int 0, .ref (a 208), .ref (a 209), .ref (a 210), .ref (a 211), .ref (a 212), .int 4, .int 12, .int (-1), .int 0, .ref (g 200), .ref (a 213), .int 0, .int 97, .ref (a 214), .ref (a 215), .ref (a 207), .null, .int 0]))]) hP hD [0, 1, 2, 3, 4, 5, 6, 7, 8, 9, 10, 11, 12, 13, 14] [15] rfl rfl (by decide) (by decide) hk1 hFc hP1 hD1
          have hP : va_P D vwCl [(o1, .inl (g 1, 1, .inr (.inl (fun _ => 0)))), ((a 200), .inr (21, [.int 1, .ref (a 201), .ref (a 202), .ref (a 203), .ref (a 204), .ref (a 205), .ref (a 206), .int 0, .int 0, .int 0, .int 0, .ref (a 208), .ref (a 209), .ref (a 210), .ref (a 211), .ref (a 212), .int 4, .int 12, .int (-1), .int 0, .ref (g 200), .ref (a 213), .int 0, .int 97, .ref (a 214), .ref (a 215), .ref (a 207), .null, .int 0]))] H := hP
          have hD : va_D (va_A [] s.heap.size) [(o1, .inl (g 1, 1, .inr (.inl (fun _ => 0)))), ((a 200), .inr (21, [.int 1, .ref (a 201), .ref (a 202), .ref (a 203), .ref (a 204), .ref (a 205), .ref (a 206), .int 0, .int 0, .int 0, .int 0, .ref (a 208), .ref (a 209), .ref (a 210), .ref (a 211), .ref (a 212), .int 4, .int 12, .int (-1), .int 0, .ref (g 200), .ref (a 213), .int 0, .int 97, .ref (a 214), .ref (a 215), .ref (a 207), .null, .int 0]))] := hD
          refine lv_istore (lv' := [(7, .int 0), (6, .int 1), (0, .ref b), (1, .ref (a 0)), (2, .ref (a 200)), (3, .ref o1), (4, .ref o2), (5, .int 0)]) hx hb dL_law_3584 hl (by decide) rfl (fun ls hl => ?_)
          refine lv_aload_n hx hb dL_law_3586 rfl (lv_at hl 4 rfl) ?_
          have hPc : va_P D vwCl [((a 200), .inr (21, [.int 1, .ref (a 201), .ref (a 202), .ref (a 203), .ref (a 204), .ref (a 205), .ref (a 206), .int 0, .int 0, .int 0, .int 0, .ref (a 208), .ref (a 209), .ref (a 210), .ref (a 211), .ref (a 212), .int 4, .int 12, .int (-1), .int 0, .ref (g 200), .ref (a 213), .int 0, .int 97, .ref (a 214), .ref (a 215), .ref (a 207), .null, .int 0]))] _ := hP.sub (ws' := [((a 200), .inr (21, [.int 1, .ref (a 201), .ref (a 202), .ref (a 203), .ref (a 204), .ref (a 205), .ref (a 206), .int 0, .int 0, .int 0, .int 0, .ref (a 208), .ref (a 209), .ref (a 210), .ref (a 211), .ref (a 212), .int 4, .int 12, .int (-1), .int 0, .ref (g 200), .ref (a 213), .int 0, .int 97, .ref (a 214), .ref (a 215), .ref (a 207), .null, .int 0]))]) [1] rfl
          have hDc : va_D (fun q => z0 ≤ q) [((a 200), .inr (21, [.int 1, .ref (a 201), .ref (a 202), .ref (a 203), .ref (a 204), .ref (a 205), .ref (a 206), .int 0, .int 0, .int 0, .int 0, .ref (a 208), .ref (a 209), .ref (a 210), .ref (a 211), .ref (a 212), .int 4, .int 12, .int (-1), .int 0, .ref (g 200), .ref (a 213), .int 0, .int 97, .ref (a 214), .ref (a 215), .ref (a 207), .null, .int 0]))] := (hD.to hAz).pick (ws' := [((a 200), .inr (21, [.int 1, .ref (a 201), .ref (a 202), .ref (a 203), .ref (a 204), .ref (a 205), .ref (a 206), .int 0, .int 0, .int 0, .int 0, .ref (a 208), .ref (a 209), .ref (a 210), .ref (a 211), .ref (a 212), .int 4, .int 12, .int (-1), .int 0, .ref (g 200), .ref (a 213), .int 0, .int 97, .ref (a 214), .ref (a 215), .ref (a 207), .null, .int 0]))]) [1] (by decide) rfl
          have hFc := va_free (wc := [((a 200), .inr (21, [.int 1, .ref (a 201), .ref (a 202), .ref (a 203), .ref (a 204), .ref (a 205), .ref (a 206), .int 0, .int 0, .int 0, .int 0, .ref (a 208), .ref (a 209), .ref (a 210), .ref (a 211), .ref (a 212), .int 4, .int 12, .int (-1), .int 0, .ref (g 200), .ref (a 213), .int 0, .int 97, .ref (a 214), .ref (a 215), .ref (a 207), .null, .int 0]))]) hD hS hA [1] rfl
          refine va_calli (va_runV (As := []) (rest := []) ⟨hx, hb, hml, hown, ht⟩ (k_X15_thrown_v2 l D g z0 _ a) (cwV 0 ht (gV w_772 w_774 w_775 w_334 w_773) rfl rfl rfl (by decide +kernel) (le2 rfl rfl)) ⟨PP.blind, va_recv hK.1 hP (ci := 21) (q0 := 1) rfl rfl, PP.mk' hK hZ hz hAz hS hPc hDc⟩ rfl rfl hl.1 rfl (lv_room (Nat.le_of_ble_eq_true rfl)) dL_law_3587 (le2 rfl rfl)) hS (fun q _ h => hFc q h) hFc (fun r u t H locs ht1 hvm hw hB hz1 hk1 hS => ?_)
          obtain ⟨rfl, hw⟩ := hw
          obtain ⟨hP1, hD1⟩ := hB
          rw [ht1] at hP1
          obtain ⟨hP, hD⟩ := va_join (wr := [(o1, .inl (g 1, 1, .inr (.inl (fun _ => 0))))]) (w1 := [((a 200), .inr (21, [.int 1, .ref (a 201), .ref (a 202), .ref (a 203), .ref (a 204), .ref (a 205), .ref (a 206), .int 0, .int 0, .int 0, .int 0, .ref (a 208), .ref (a 209), .ref (a 210), .ref (a 211), .ref (a 212), .int 4, .int 12, .int (-1), .int 0, .ref (g 200), .ref (a 213), .int 0, .int 97, .ref (a 214), .ref (a 215), .ref (a 207), .null, .int 0]))]) hP hD [1] [0] rfl rfl (by decide) (by decide) hk1 hFc hP1 hD1
          have hP : va_P D vwCl [(o1, .inl (g 1, 1, .inr (.inl (fun _ => 0)))), ((a 200), .inr (21, [.int 1, .ref (a 201), .ref (a 202), .ref (a 203), .ref (a 204), .ref (a 205), .ref (a 206), .int 0, .int 0, .int 0, .int 0, .ref (a 208), .ref (a 209), .ref (a 210), .ref (a 211), .ref (a 212), .int 4, .int 12, .int (-1), .int 0, .ref (g 200), .ref (a 213), .int 0, .int 97, .ref (a 214), .ref (a 215), .ref (a 207), .null, .int 0]))] H := hP
          have hD : va_D (va_A [] s.heap.size) [(o1, .inl (g 1, 1, .inr (.inl (fun _ => 0)))), ((a 200), .inr (21, [.int 1, .ref (a 201), .ref (a 202), .ref (a 203), .ref (a 204), .ref (a 205), .ref (a 206), .int 0, .int 0, .int 0, .int 0, .ref (a 208), .ref (a 209), .ref (a 210), .ref (a 211), .ref (a 212), .int 4, .int 12, .int (-1), .int 0, .ref (g 200), .ref (a 213), .int 0, .int 97, .ref (a 214), .ref (a 215), .ref (a 207), .null, .int 0]))] := hD
          refine lv_iload hx hb dL_law_3590 (lv_at hl 1 rfl) ?_
          refine lv_icmp_eq (tgt := 3597) hx hb dL_law_3592 (by decide) (fun c_47 => ?_) (fun c_47 => ?_)
          · refine lv_iload hx hb dL_law_3597 (lv_at hl 1 rfl) ?_
            refine lv_if_ne (tgt := 3614) hx hb dL_law_3599 (by decide) (fun c_48 => ?_) (fun c_48 => ?_)
            · refine lv_goto (tgt := 4264) hx hb dL_law_3614 (by decide) ?_
              refine W.widen (k := 200 + 300) (n := 8000 + 2000) (Nat.le_of_ble_eq_true rfl) (Nat.le_of_ble_eq_true rfl) ?_
              exact kk _ _ _ hS (lv_sub hl [7, 2] rfl)
            · exact absurd c_48 (by decide)
          · exact absurd c_47 (by decide)
      · obtain ⟨rfl, rfl, rfl, rfl, hw⟩ := hw
        rcases hw with hw | hw
        · obtain ⟨c_49, c_50, c_51⟩ := hw
          exact absurd c_51 c_38
        · obtain ⟨c_52, c_53, c_54, c_55⟩ := hw
          exact absurd c_55 c_39
  · obtain ⟨rfl, hw⟩ := hw
    rcases hw with hw | hw
    · obtain ⟨c_56, c_57, c_58⟩ := hw
      obtain ⟨hP1, hD1⟩ := hB
      rw [ht1] at hP1
      obtain ⟨hP, hD⟩ := va_join (wr := [((a 200), f_m a g), ((a 214), .inl (g 0, 12, .inl (fun _ => 0))), ((a 215), .inl (g 6, 12, .inr (.inr (.inr (.inr (fun i => if i < 12 then some (a (224 + i)) else none)))))), ((a 224), .inl (g 3, 12, .inl (fun _ => 0))), ((a 225), .inl (g 3, 12, .inl (fun _ => 0))), ((a 226), .inl (g 3, 12, .inl (fun _ => 0))), ((a 227), .inl (g 3, 12, .inl (fun _ => 0))), ((a 228), .inl (g 3, 12, .inl (fun _ => 0))), ((a 229), .inl (g 3, 12, .inl (fun _ => 0))), ((a 230), .inl (g 3, 12, .inl (fun _ => 0))), ((a 231), .inl (g 3, 12, .inl (fun _ => 0))), ((a 232), .inl (g 3, 12, .inl (fun _ => 0))), ((a 233), .inl (g 3, 12, .inl (fun _ => 0))), ((a 234), .inl (g 3, 12, .inl (fun _ => 0))), ((a 235), .inl (g 3, 12, .inl (fun _ => 0)))]) (w1 := [(o1, .inl (g 1, 1, .inr (.inl (fun _ => 0))))]) hP hD [19, 0, 3, 1, 2] [4, 5, 6, 7, 8, 9, 10, 11, 12, 13, 14, 15, 16, 17, 18] rfl rfl (by decide) (by decide) hk1 hFc hP1 hD1
      have hP : va_P D vwCl [((a 200), f_m a g), ((a 214), .inl (g 0, 12, .inl (fun _ => 0))), ((a 215), .inl (g 6, 12, .inr (.inr (.inr (.inr (fun i => if i < 12 then some (a (224 + i)) else none)))))), ((a 224), .inl (g 3, 12, .inl (fun _ => 0))), ((a 225), .inl (g 3, 12, .inl (fun _ => 0))), ((a 226), .inl (g 3, 12, .inl (fun _ => 0))), ((a 227), .inl (g 3, 12, .inl (fun _ => 0))), ((a 228), .inl (g 3, 12, .inl (fun _ => 0))), ((a 229), .inl (g 3, 12, .inl (fun _ => 0))), ((a 230), .inl (g 3, 12, .inl (fun _ => 0))), ((a 231), .inl (g 3, 12, .inl (fun _ => 0))), ((a 232), .inl (g 3, 12, .inl (fun _ => 0))), ((a 233), .inl (g 3, 12, .inl (fun _ => 0))), ((a 234), .inl (g 3, 12, .inl (fun _ => 0))), ((a 235), .inl (g 3, 12, .inl (fun _ => 0))), (o1, .inl (g 1, 1, .inr (.inl (fun _ => 0))))] H := hP
      have hD : va_D (va_A [] s.heap.size) [((a 200), f_m a g), ((a 214), .inl (g 0, 12, .inl (fun _ => 0))), ((a 215), .inl (g 6, 12, .inr (.inr (.inr (.inr (fun i => if i < 12 then some (a (224 + i)) else none)))))), ((a 224), .inl (g 3, 12, .inl (fun _ => 0))), ((a 225), .inl (g 3, 12, .inl (fun _ => 0))), ((a 226), .inl (g 3, 12, .inl (fun _ => 0))), ((a 227), .inl (g 3, 12, .inl (fun _ => 0))), ((a 228), .inl (g 3, 12, .inl (fun _ => 0))), ((a 229), .inl (g 3, 12, .inl (fun _ => 0))), ((a 230), .inl (g 3, 12, .inl (fun _ => 0))), ((a 231), .inl (g 3, 12, .inl (fun _ => 0))), ((a 232), .inl (g 3, 12, .inl (fun _ => 0))), ((a 233), .inl (g 3, 12, .inl (fun _ => 0))), ((a 234), .inl (g 3, 12, .inl (fun _ => 0))), ((a 235), .inl (g 3, 12, .inl (fun _ => 0))), (o1, .inl (g 1, 1, .inr (.inl (fun _ => 0))))] := hD
      refine lv_istore (lv' := [(6, .int 0), (0, .ref b), (1, .ref (a 0)), (2, .ref (a 200)), (3, .ref o1), (4, .ref o2), (5, .int 0)]) hx hb dL_law_3565 hl (by decide) rfl (fun ls hl => ?_)
      refine lv_aload_n hx hb dL_law_3567 rfl (lv_at hl 3 rfl) ?_
      refine lv_aload_n hx hb dL_law_3568 rfl (lv_at hl 1 rfl) ?_
      refine lv_iload hx hb dL_law_3569 (lv_at hl 6 rfl) ?_
      refine lv_iconst (v := 1) hx hb dL_law_3571 (by decide) ?_
      refine lv_iadd hx hb dL_law_3572 ?_
      refine r_topi (v := 1) (by decide) ?_
      refine va_sld hx hb hX hbl hbA hS (by unfold vp_in; decide) dL_law_3573 ?_
      refine r_topi (v := xs 1) (congrArg xs (by decide)) ?_
      refine lv_aload_n hx hb dL_law_3574 rfl (lv_at hl 1 rfl) ?_
      refine lv_iload hx hb dL_law_3575 (lv_at hl 6 rfl) ?_
      refine lv_iconst (v := 2) hx hb dL_law_3577 (by decide) ?_
      refine lv_iadd hx hb dL_law_3578 ?_
      refine r_topi (v := 2) (by decide) ?_
      refine va_sld hx hb hX hbl hbA hS (by unfold vp_in; decide) dL_law_3579 ?_
      refine r_topi (v := xs 2) (congrArg xs (by decide)) ?_
      refine lv_i2c (v := ((xs 2).toUInt32 % 65536).toInt32) hx hb dL_law_3580 rfl ?_
      have hPc : va_P D vwCl [((a 200), f_m a g), ((a 214), .inl (g 0, 12, .inl (fun _ => 0))), ((a 215), .inl (g 6, 12, .inr (.inr (.inr (.inr (fun i => if i < 12 then some (a (224 + i)) else none)))))), ((a 224), .inl (g 3, 12, .inl (fun _ => 0))), ((a 225), .inl (g 3, 12, .inl (fun _ => 0))), ((a 226), .inl (g 3, 12, .inl (fun _ => 0))), ((a 227), .inl (g 3, 12, .inl (fun _ => 0))), ((a 228), .inl (g 3, 12, .inl (fun _ => 0))), ((a 229), .inl (g 3, 12, .inl (fun _ => 0))), ((a 230), .inl (g 3, 12, .inl (fun _ => 0))), ((a 231), .inl (g 3, 12, .inl (fun _ => 0))), ((a 232), .inl (g 3, 12, .inl (fun _ => 0))), ((a 233), .inl (g 3, 12, .inl (fun _ => 0))), ((a 234), .inl (g 3, 12, .inl (fun _ => 0))), ((a 235), .inl (g 3, 12, .inl (fun _ => 0)))] _ := hP.sub (ws' := [((a 200), f_m a g), ((a 214), .inl (g 0, 12, .inl (fun _ => 0))), ((a 215), .inl (g 6, 12, .inr (.inr (.inr (.inr (fun i => if i < 12 then some (a (224 + i)) else none)))))), ((a 224), .inl (g 3, 12, .inl (fun _ => 0))), ((a 225), .inl (g 3, 12, .inl (fun _ => 0))), ((a 226), .inl (g 3, 12, .inl (fun _ => 0))), ((a 227), .inl (g 3, 12, .inl (fun _ => 0))), ((a 228), .inl (g 3, 12, .inl (fun _ => 0))), ((a 229), .inl (g 3, 12, .inl (fun _ => 0))), ((a 230), .inl (g 3, 12, .inl (fun _ => 0))), ((a 231), .inl (g 3, 12, .inl (fun _ => 0))), ((a 232), .inl (g 3, 12, .inl (fun _ => 0))), ((a 233), .inl (g 3, 12, .inl (fun _ => 0))), ((a 234), .inl (g 3, 12, .inl (fun _ => 0))), ((a 235), .inl (g 3, 12, .inl (fun _ => 0)))]) [0, 1, 2, 3, 4, 5, 6, 7, 8, 9, 10, 11, 12, 13, 14] rfl
      have hDc : va_D (fun q => z0 ≤ q) [((a 200), f_m a g), ((a 214), .inl (g 0, 12, .inl (fun _ => 0))), ((a 215), .inl (g 6, 12, .inr (.inr (.inr (.inr (fun i => if i < 12 then some (a (224 + i)) else none)))))), ((a 224), .inl (g 3, 12, .inl (fun _ => 0))), ((a 225), .inl (g 3, 12, .inl (fun _ => 0))), ((a 226), .inl (g 3, 12, .inl (fun _ => 0))), ((a 227), .inl (g 3, 12, .inl (fun _ => 0))), ((a 228), .inl (g 3, 12, .inl (fun _ => 0))), ((a 229), .inl (g 3, 12, .inl (fun _ => 0))), ((a 230), .inl (g 3, 12, .inl (fun _ => 0))), ((a 231), .inl (g 3, 12, .inl (fun _ => 0))), ((a 232), .inl (g 3, 12, .inl (fun _ => 0))), ((a 233), .inl (g 3, 12, .inl (fun _ => 0))), ((a 234), .inl (g 3, 12, .inl (fun _ => 0))), ((a 235), .inl (g 3, 12, .inl (fun _ => 0)))] := (hD.to hAz).pick (ws' := [((a 200), f_m a g), ((a 214), .inl (g 0, 12, .inl (fun _ => 0))), ((a 215), .inl (g 6, 12, .inr (.inr (.inr (.inr (fun i => if i < 12 then some (a (224 + i)) else none)))))), ((a 224), .inl (g 3, 12, .inl (fun _ => 0))), ((a 225), .inl (g 3, 12, .inl (fun _ => 0))), ((a 226), .inl (g 3, 12, .inl (fun _ => 0))), ((a 227), .inl (g 3, 12, .inl (fun _ => 0))), ((a 228), .inl (g 3, 12, .inl (fun _ => 0))), ((a 229), .inl (g 3, 12, .inl (fun _ => 0))), ((a 230), .inl (g 3, 12, .inl (fun _ => 0))), ((a 231), .inl (g 3, 12, .inl (fun _ => 0))), ((a 232), .inl (g 3, 12, .inl (fun _ => 0))), ((a 233), .inl (g 3, 12, .inl (fun _ => 0))), ((a 234), .inl (g 3, 12, .inl (fun _ => 0))), ((a 235), .inl (g 3, 12, .inl (fun _ => 0)))]) [0, 1, 2, 3, 4, 5, 6, 7, 8, 9, 10, 11, 12, 13, 14] (by decide) rfl
      have hFc := va_free (wc := [((a 200), f_m a g), ((a 214), .inl (g 0, 12, .inl (fun _ => 0))), ((a 215), .inl (g 6, 12, .inr (.inr (.inr (.inr (fun i => if i < 12 then some (a (224 + i)) else none)))))), ((a 224), .inl (g 3, 12, .inl (fun _ => 0))), ((a 225), .inl (g 3, 12, .inl (fun _ => 0))), ((a 226), .inl (g 3, 12, .inl (fun _ => 0))), ((a 227), .inl (g 3, 12, .inl (fun _ => 0))), ((a 228), .inl (g 3, 12, .inl (fun _ => 0))), ((a 229), .inl (g 3, 12, .inl (fun _ => 0))), ((a 230), .inl (g 3, 12, .inl (fun _ => 0))), ((a 231), .inl (g 3, 12, .inl (fun _ => 0))), ((a 232), .inl (g 3, 12, .inl (fun _ => 0))), ((a 233), .inl (g 3, 12, .inl (fun _ => 0))), ((a 234), .inl (g 3, 12, .inl (fun _ => 0))), ((a 235), .inl (g 3, 12, .inl (fun _ => 0)))]) hD hS hA [0, 1, 2, 3, 4, 5, 6, 7, 8, 9, 10, 11, 12, 13, 14] rfl
      refine va_calli (va_runV (As := [.int (xs 1), .int (((xs 2).toUInt32 % 65536).toInt32)]) (rest := []) ⟨hx, hb, hml, hown, ht⟩ (k_X15_board l D g z0 _ a (xs 1) (((xs 2).toUInt32 % 65536).toInt32) (isC_i2c _)) (cwV 2 ht (gV w_1153 w_1155 w_1156 w_334 w_1154) rfl rfl rfl (by decide +kernel) (le2 rfl rfl)) ⟨PP.blind, va_recv hK.1 hP (ci := 21) (q0 := 0) rfl rfl, PP.mk' hK hZ hz hAz hS hPc hDc⟩ rfl rfl hl.1 rfl (lv_room (Nat.le_of_ble_eq_true rfl)) dL_law_3581 (le2 rfl rfl)) hS (fun q _ h => hFc q h) hFc (fun r u t H locs ht1 hvm hw hB hz1 hk1 hS => ?_)
      obtain ⟨u0, u1, u2⟩ := u
      rcases hw with hw | hw
      · obtain ⟨rfl, rfl, rfl, rfl, hw⟩ := hw
        rcases hw with hw | hw | hw
        · have c_59 := hw
          exact absurd c_59 c_56
        · obtain ⟨c_60, c_61⟩ := hw
          exact absurd (Int.le_trans (lo_lt c_61) (up_le c_57)) (by decide)
        · obtain ⟨c_62, c_63, c_64, c_65⟩ := hw
          exact absurd c_58 c_64
      · obtain ⟨rfl, rfl, rfl, rfl, hw⟩ := hw
        rcases hw with hw | hw
        · obtain ⟨c_66, c_67, c_68⟩ := hw
          obtain ⟨hP1, hD1⟩ := hB
          rw [ht1] at hP1
          obtain ⟨hP, hD⟩ := va_join (wr := [(o1, .inl (g 1, 1, .inr (.inl (fun _ => 0))))]) (w1 := [((a 200), .inr (21, [.int 0, .ref (a 201), .ref (a 202), .ref (a 203), .ref (a 204), .ref (a 205), .ref (a 206), .int 0, .int 0, .int 0, .int 0, .ref (a 208), .ref (a 209), .ref (a 210), .ref (a 211), .ref (a 212), .int 4, .int 12, .int (-1), .int 0, .ref (g 200), .ref (a 213), .int (xs 1), .int (((xs 2).toUInt32 % 65536).toInt32), .ref (a 214), .ref (a 215), .ref (a 207), .null, .int 0]))]) hP hD [0, 1, 2, 3, 4, 5, 6, 7, 8, 9, 10, 11, 12, 13, 14] [15] rfl rfl (by decide) (by decide) hk1 hFc hP1 hD1
          have hP : va_P D vwCl [(o1, .inl (g 1, 1, .inr (.inl (fun _ => 0)))), ((a 200), .inr (21, [.int 0, .ref (a 201), .ref (a 202), .ref (a 203), .ref (a 204), .ref (a 205), .ref (a 206), .int 0, .int 0, .int 0, .int 0, .ref (a 208), .ref (a 209), .ref (a 210), .ref (a 211), .ref (a 212), .int 4, .int 12, .int (-1), .int 0, .ref (g 200), .ref (a 213), .int (xs 1), .int (((xs 2).toUInt32 % 65536).toInt32), .ref (a 214), .ref (a 215), .ref (a 207), .null, .int 0]))] H := hP
          have hD : va_D (va_A [] s.heap.size) [(o1, .inl (g 1, 1, .inr (.inl (fun _ => 0)))), ((a 200), .inr (21, [.int 0, .ref (a 201), .ref (a 202), .ref (a 203), .ref (a 204), .ref (a 205), .ref (a 206), .int 0, .int 0, .int 0, .int 0, .ref (a 208), .ref (a 209), .ref (a 210), .ref (a 211), .ref (a 212), .int 4, .int 12, .int (-1), .int 0, .ref (g 200), .ref (a 213), .int (xs 1), .int (((xs 2).toUInt32 % 65536).toInt32), .ref (a 214), .ref (a 215), .ref (a 207), .null, .int 0]))] := hD
          refine lv_istore (lv' := [(7, .int 0), (6, .int 0), (0, .ref b), (1, .ref (a 0)), (2, .ref (a 200)), (3, .ref o1), (4, .ref o2), (5, .int 0)]) hx hb dL_law_3584 hl (by decide) rfl (fun ls hl => ?_)
          refine lv_aload_n hx hb dL_law_3586 rfl (lv_at hl 4 rfl) ?_
          have hPc : va_P D vwCl [((a 200), .inr (21, [.int 0, .ref (a 201), .ref (a 202), .ref (a 203), .ref (a 204), .ref (a 205), .ref (a 206), .int 0, .int 0, .int 0, .int 0, .ref (a 208), .ref (a 209), .ref (a 210), .ref (a 211), .ref (a 212), .int 4, .int 12, .int (-1), .int 0, .ref (g 200), .ref (a 213), .int (xs 1), .int (((xs 2).toUInt32 % 65536).toInt32), .ref (a 214), .ref (a 215), .ref (a 207), .null, .int 0]))] _ := hP.sub (ws' := [((a 200), .inr (21, [.int 0, .ref (a 201), .ref (a 202), .ref (a 203), .ref (a 204), .ref (a 205), .ref (a 206), .int 0, .int 0, .int 0, .int 0, .ref (a 208), .ref (a 209), .ref (a 210), .ref (a 211), .ref (a 212), .int 4, .int 12, .int (-1), .int 0, .ref (g 200), .ref (a 213), .int (xs 1), .int (((xs 2).toUInt32 % 65536).toInt32), .ref (a 214), .ref (a 215), .ref (a 207), .null, .int 0]))]) [1] rfl
          have hDc : va_D (fun q => z0 ≤ q) [((a 200), .inr (21, [.int 0, .ref (a 201), .ref (a 202), .ref (a 203), .ref (a 204), .ref (a 205), .ref (a 206), .int 0, .int 0, .int 0, .int 0, .ref (a 208), .ref (a 209), .ref (a 210), .ref (a 211), .ref (a 212), .int 4, .int 12, .int (-1), .int 0, .ref (g 200), .ref (a 213), .int (xs 1), .int (((xs 2).toUInt32 % 65536).toInt32), .ref (a 214), .ref (a 215), .ref (a 207), .null, .int 0]))] := (hD.to hAz).pick (ws' := [((a 200), .inr (21, [.int 0, .ref (a 201), .ref (a 202), .ref (a 203), .ref (a 204), .ref (a 205), .ref (a 206), .int 0, .int 0, .int 0, .int 0, .ref (a 208), .ref (a 209), .ref (a 210), .ref (a 211), .ref (a 212), .int 4, .int 12, .int (-1), .int 0, .ref (g 200), .ref (a 213), .int (xs 1), .int (((xs 2).toUInt32 % 65536).toInt32), .ref (a 214), .ref (a 215), .ref (a 207), .null, .int 0]))]) [1] (by decide) rfl
          have hFc := va_free (wc := [((a 200), .inr (21, [.int 0, .ref (a 201), .ref (a 202), .ref (a 203), .ref (a 204), .ref (a 205), .ref (a 206), .int 0, .int 0, .int 0, .int 0, .ref (a 208), .ref (a 209), .ref (a 210), .ref (a 211), .ref (a 212), .int 4, .int 12, .int (-1), .int 0, .ref (g 200), .ref (a 213), .int (xs 1), .int (((xs 2).toUInt32 % 65536).toInt32), .ref (a 214), .ref (a 215), .ref (a 207), .null, .int 0]))]) hD hS hA [1] rfl
          refine va_calli (va_runV (As := []) (rest := []) ⟨hx, hb, hml, hown, ht⟩ (k_X15_thrown_v3 l D g z0 _ a (xs 1) (((xs 2).toUInt32 % 65536).toInt32)) (cwV 0 ht (gV w_772 w_774 w_775 w_334 w_773) rfl rfl rfl (by decide +kernel) (le2 rfl rfl)) ⟨PP.blind, va_recv hK.1 hP (ci := 21) (q0 := 1) rfl rfl, PP.mk' hK hZ hz hAz hS hPc hDc⟩ rfl rfl hl.1 rfl (lv_room (Nat.le_of_ble_eq_true rfl)) dL_law_3587 (le2 rfl rfl)) hS (fun q _ h => hFc q h) hFc (fun r u t H locs ht1 hvm hw hB hz1 hk1 hS => ?_)
          obtain ⟨rfl, hw⟩ := hw
          obtain ⟨hP1, hD1⟩ := hB
          rw [ht1] at hP1
          obtain ⟨hP, hD⟩ := va_join (wr := [(o1, .inl (g 1, 1, .inr (.inl (fun _ => 0))))]) (w1 := [((a 200), .inr (21, [.int 0, .ref (a 201), .ref (a 202), .ref (a 203), .ref (a 204), .ref (a 205), .ref (a 206), .int 0, .int 0, .int 0, .int 0, .ref (a 208), .ref (a 209), .ref (a 210), .ref (a 211), .ref (a 212), .int 4, .int 12, .int (-1), .int 0, .ref (g 200), .ref (a 213), .int (xs 1), .int (((xs 2).toUInt32 % 65536).toInt32), .ref (a 214), .ref (a 215), .ref (a 207), .null, .int 0]))]) hP hD [1] [0] rfl rfl (by decide) (by decide) hk1 hFc hP1 hD1
          have hP : va_P D vwCl [(o1, .inl (g 1, 1, .inr (.inl (fun _ => 0)))), ((a 200), .inr (21, [.int 0, .ref (a 201), .ref (a 202), .ref (a 203), .ref (a 204), .ref (a 205), .ref (a 206), .int 0, .int 0, .int 0, .int 0, .ref (a 208), .ref (a 209), .ref (a 210), .ref (a 211), .ref (a 212), .int 4, .int 12, .int (-1), .int 0, .ref (g 200), .ref (a 213), .int (xs 1), .int (((xs 2).toUInt32 % 65536).toInt32), .ref (a 214), .ref (a 215), .ref (a 207), .null, .int 0]))] H := hP
          have hD : va_D (va_A [] s.heap.size) [(o1, .inl (g 1, 1, .inr (.inl (fun _ => 0)))), ((a 200), .inr (21, [.int 0, .ref (a 201), .ref (a 202), .ref (a 203), .ref (a 204), .ref (a 205), .ref (a 206), .int 0, .int 0, .int 0, .int 0, .ref (a 208), .ref (a 209), .ref (a 210), .ref (a 211), .ref (a 212), .int 4, .int 12, .int (-1), .int 0, .ref (g 200), .ref (a 213), .int (xs 1), .int (((xs 2).toUInt32 % 65536).toInt32), .ref (a 214), .ref (a 215), .ref (a 207), .null, .int 0]))] := hD
          refine lv_iload hx hb dL_law_3590 (lv_at hl 1 rfl) ?_
          refine lv_icmp_eq (tgt := 3597) hx hb dL_law_3592 (by decide) (fun c_69 => ?_) (fun c_69 => ?_)
          · refine lv_iload hx hb dL_law_3597 (lv_at hl 1 rfl) ?_
            refine lv_if_ne (tgt := 3614) hx hb dL_law_3599 (by decide) (fun c_70 => ?_) (fun c_70 => ?_)
            · exact absurd c_70 (by decide)
            · refine lv_aload_n hx hb dL_law_3602 rfl (lv_at hl 5 rfl) ?_
              refine lv_iconst (v := 0) hx hb dL_law_3603 (by decide) ?_
              refine va_lald hx hb hK.1 hP 0 1 rfl rfl (by unfold vp_in; decide) dL_law_3604 ?_
              refine r_topl (v := 0) (by decide) ?_
              refine lv_iload hx hb dL_law_3605 (lv_at hl 0 rfl) ?_
              refine lv_i2l (v := 0) hx hb dL_law_3607 (by decide) ?_
              refine W.lcmp hx hb dL_law_3608 ?_
              refine r_topi (v := 0) (by decide) ?_
              refine lv_if_eq (tgt := 3614) hx hb dL_law_3609 (by decide) (fun c_71 => ?_) (fun c_71 => ?_)
              · refine lv_goto (tgt := 4264) hx hb dL_law_3614 (by decide) ?_
                refine W.widen (k := 200 + 300) (n := 8000 + 2000) (Nat.le_of_ble_eq_true rfl) (Nat.le_of_ble_eq_true rfl) ?_
                exact kk _ _ _ hS (lv_sub hl [7, 2] rfl)
              · exact absurd c_71 (by decide)
          · exact absurd c_69 (by decide)
        · obtain ⟨c_72, c_73, c_74, c_75⟩ := hw
          exact absurd c_58 c_74
    · obtain ⟨c_76, c_77, c_78, c_79⟩ := hw
      obtain ⟨hP1, hD1⟩ := hB
      rw [ht1] at hP1
      obtain ⟨hP, hD⟩ := va_join (wr := [((a 200), f_m a g), ((a 214), .inl (g 0, 12, .inl (fun _ => 0))), ((a 215), .inl (g 6, 12, .inr (.inr (.inr (.inr (fun i => if i < 12 then some (a (224 + i)) else none)))))), ((a 224), .inl (g 3, 12, .inl (fun _ => 0))), ((a 225), .inl (g 3, 12, .inl (fun _ => 0))), ((a 226), .inl (g 3, 12, .inl (fun _ => 0))), ((a 227), .inl (g 3, 12, .inl (fun _ => 0))), ((a 228), .inl (g 3, 12, .inl (fun _ => 0))), ((a 229), .inl (g 3, 12, .inl (fun _ => 0))), ((a 230), .inl (g 3, 12, .inl (fun _ => 0))), ((a 231), .inl (g 3, 12, .inl (fun _ => 0))), ((a 232), .inl (g 3, 12, .inl (fun _ => 0))), ((a 233), .inl (g 3, 12, .inl (fun _ => 0))), ((a 234), .inl (g 3, 12, .inl (fun _ => 0))), ((a 235), .inl (g 3, 12, .inl (fun _ => 0)))]) (w1 := [(o1, .inl (g 1, 1, .inr (.inl (fun _ => 0))))]) hP hD [19, 0, 3, 1, 2] [4, 5, 6, 7, 8, 9, 10, 11, 12, 13, 14, 15, 16, 17, 18] rfl rfl (by decide) (by decide) hk1 hFc hP1 hD1
      have hP : va_P D vwCl [((a 200), f_m a g), ((a 214), .inl (g 0, 12, .inl (fun _ => 0))), ((a 215), .inl (g 6, 12, .inr (.inr (.inr (.inr (fun i => if i < 12 then some (a (224 + i)) else none)))))), ((a 224), .inl (g 3, 12, .inl (fun _ => 0))), ((a 225), .inl (g 3, 12, .inl (fun _ => 0))), ((a 226), .inl (g 3, 12, .inl (fun _ => 0))), ((a 227), .inl (g 3, 12, .inl (fun _ => 0))), ((a 228), .inl (g 3, 12, .inl (fun _ => 0))), ((a 229), .inl (g 3, 12, .inl (fun _ => 0))), ((a 230), .inl (g 3, 12, .inl (fun _ => 0))), ((a 231), .inl (g 3, 12, .inl (fun _ => 0))), ((a 232), .inl (g 3, 12, .inl (fun _ => 0))), ((a 233), .inl (g 3, 12, .inl (fun _ => 0))), ((a 234), .inl (g 3, 12, .inl (fun _ => 0))), ((a 235), .inl (g 3, 12, .inl (fun _ => 0))), (o1, .inl (g 1, 1, .inr (.inl (fun _ => 0))))] H := hP
      have hD : va_D (va_A [] s.heap.size) [((a 200), f_m a g), ((a 214), .inl (g 0, 12, .inl (fun _ => 0))), ((a 215), .inl (g 6, 12, .inr (.inr (.inr (.inr (fun i => if i < 12 then some (a (224 + i)) else none)))))), ((a 224), .inl (g 3, 12, .inl (fun _ => 0))), ((a 225), .inl (g 3, 12, .inl (fun _ => 0))), ((a 226), .inl (g 3, 12, .inl (fun _ => 0))), ((a 227), .inl (g 3, 12, .inl (fun _ => 0))), ((a 228), .inl (g 3, 12, .inl (fun _ => 0))), ((a 229), .inl (g 3, 12, .inl (fun _ => 0))), ((a 230), .inl (g 3, 12, .inl (fun _ => 0))), ((a 231), .inl (g 3, 12, .inl (fun _ => 0))), ((a 232), .inl (g 3, 12, .inl (fun _ => 0))), ((a 233), .inl (g 3, 12, .inl (fun _ => 0))), ((a 234), .inl (g 3, 12, .inl (fun _ => 0))), ((a 235), .inl (g 3, 12, .inl (fun _ => 0))), (o1, .inl (g 1, 1, .inr (.inl (fun _ => 0))))] := hD
      refine lv_istore (lv' := [(6, .int 0), (0, .ref b), (1, .ref (a 0)), (2, .ref (a 200)), (3, .ref o1), (4, .ref o2), (5, .int 0)]) hx hb dL_law_3565 hl (by decide) rfl (fun ls hl => ?_)
      refine lv_aload_n hx hb dL_law_3567 rfl (lv_at hl 3 rfl) ?_
      refine lv_aload_n hx hb dL_law_3568 rfl (lv_at hl 1 rfl) ?_
      refine lv_iload hx hb dL_law_3569 (lv_at hl 6 rfl) ?_
      refine lv_iconst (v := 1) hx hb dL_law_3571 (by decide) ?_
      refine lv_iadd hx hb dL_law_3572 ?_
      refine r_topi (v := 1) (by decide) ?_
      refine va_sld hx hb hX hbl hbA hS (by unfold vp_in; decide) dL_law_3573 ?_
      refine r_topi (v := xs 1) (congrArg xs (by decide)) ?_
      refine lv_aload_n hx hb dL_law_3574 rfl (lv_at hl 1 rfl) ?_
      refine lv_iload hx hb dL_law_3575 (lv_at hl 6 rfl) ?_
      refine lv_iconst (v := 2) hx hb dL_law_3577 (by decide) ?_
      refine lv_iadd hx hb dL_law_3578 ?_
      refine r_topi (v := 2) (by decide) ?_
      refine va_sld hx hb hX hbl hbA hS (by unfold vp_in; decide) dL_law_3579 ?_
      refine r_topi (v := xs 2) (congrArg xs (by decide)) ?_
      refine lv_i2c (v := ((xs 2).toUInt32 % 65536).toInt32) hx hb dL_law_3580 rfl ?_
      have hPc : va_P D vwCl [((a 200), f_m a g), ((a 214), .inl (g 0, 12, .inl (fun _ => 0))), ((a 215), .inl (g 6, 12, .inr (.inr (.inr (.inr (fun i => if i < 12 then some (a (224 + i)) else none)))))), ((a 224), .inl (g 3, 12, .inl (fun _ => 0))), ((a 225), .inl (g 3, 12, .inl (fun _ => 0))), ((a 226), .inl (g 3, 12, .inl (fun _ => 0))), ((a 227), .inl (g 3, 12, .inl (fun _ => 0))), ((a 228), .inl (g 3, 12, .inl (fun _ => 0))), ((a 229), .inl (g 3, 12, .inl (fun _ => 0))), ((a 230), .inl (g 3, 12, .inl (fun _ => 0))), ((a 231), .inl (g 3, 12, .inl (fun _ => 0))), ((a 232), .inl (g 3, 12, .inl (fun _ => 0))), ((a 233), .inl (g 3, 12, .inl (fun _ => 0))), ((a 234), .inl (g 3, 12, .inl (fun _ => 0))), ((a 235), .inl (g 3, 12, .inl (fun _ => 0)))] _ := hP.sub (ws' := [((a 200), f_m a g), ((a 214), .inl (g 0, 12, .inl (fun _ => 0))), ((a 215), .inl (g 6, 12, .inr (.inr (.inr (.inr (fun i => if i < 12 then some (a (224 + i)) else none)))))), ((a 224), .inl (g 3, 12, .inl (fun _ => 0))), ((a 225), .inl (g 3, 12, .inl (fun _ => 0))), ((a 226), .inl (g 3, 12, .inl (fun _ => 0))), ((a 227), .inl (g 3, 12, .inl (fun _ => 0))), ((a 228), .inl (g 3, 12, .inl (fun _ => 0))), ((a 229), .inl (g 3, 12, .inl (fun _ => 0))), ((a 230), .inl (g 3, 12, .inl (fun _ => 0))), ((a 231), .inl (g 3, 12, .inl (fun _ => 0))), ((a 232), .inl (g 3, 12, .inl (fun _ => 0))), ((a 233), .inl (g 3, 12, .inl (fun _ => 0))), ((a 234), .inl (g 3, 12, .inl (fun _ => 0))), ((a 235), .inl (g 3, 12, .inl (fun _ => 0)))]) [0, 1, 2, 3, 4, 5, 6, 7, 8, 9, 10, 11, 12, 13, 14] rfl
      have hDc : va_D (fun q => z0 ≤ q) [((a 200), f_m a g), ((a 214), .inl (g 0, 12, .inl (fun _ => 0))), ((a 215), .inl (g 6, 12, .inr (.inr (.inr (.inr (fun i => if i < 12 then some (a (224 + i)) else none)))))), ((a 224), .inl (g 3, 12, .inl (fun _ => 0))), ((a 225), .inl (g 3, 12, .inl (fun _ => 0))), ((a 226), .inl (g 3, 12, .inl (fun _ => 0))), ((a 227), .inl (g 3, 12, .inl (fun _ => 0))), ((a 228), .inl (g 3, 12, .inl (fun _ => 0))), ((a 229), .inl (g 3, 12, .inl (fun _ => 0))), ((a 230), .inl (g 3, 12, .inl (fun _ => 0))), ((a 231), .inl (g 3, 12, .inl (fun _ => 0))), ((a 232), .inl (g 3, 12, .inl (fun _ => 0))), ((a 233), .inl (g 3, 12, .inl (fun _ => 0))), ((a 234), .inl (g 3, 12, .inl (fun _ => 0))), ((a 235), .inl (g 3, 12, .inl (fun _ => 0)))] := (hD.to hAz).pick (ws' := [((a 200), f_m a g), ((a 214), .inl (g 0, 12, .inl (fun _ => 0))), ((a 215), .inl (g 6, 12, .inr (.inr (.inr (.inr (fun i => if i < 12 then some (a (224 + i)) else none)))))), ((a 224), .inl (g 3, 12, .inl (fun _ => 0))), ((a 225), .inl (g 3, 12, .inl (fun _ => 0))), ((a 226), .inl (g 3, 12, .inl (fun _ => 0))), ((a 227), .inl (g 3, 12, .inl (fun _ => 0))), ((a 228), .inl (g 3, 12, .inl (fun _ => 0))), ((a 229), .inl (g 3, 12, .inl (fun _ => 0))), ((a 230), .inl (g 3, 12, .inl (fun _ => 0))), ((a 231), .inl (g 3, 12, .inl (fun _ => 0))), ((a 232), .inl (g 3, 12, .inl (fun _ => 0))), ((a 233), .inl (g 3, 12, .inl (fun _ => 0))), ((a 234), .inl (g 3, 12, .inl (fun _ => 0))), ((a 235), .inl (g 3, 12, .inl (fun _ => 0)))]) [0, 1, 2, 3, 4, 5, 6, 7, 8, 9, 10, 11, 12, 13, 14] (by decide) rfl
      have hFc := va_free (wc := [((a 200), f_m a g), ((a 214), .inl (g 0, 12, .inl (fun _ => 0))), ((a 215), .inl (g 6, 12, .inr (.inr (.inr (.inr (fun i => if i < 12 then some (a (224 + i)) else none)))))), ((a 224), .inl (g 3, 12, .inl (fun _ => 0))), ((a 225), .inl (g 3, 12, .inl (fun _ => 0))), ((a 226), .inl (g 3, 12, .inl (fun _ => 0))), ((a 227), .inl (g 3, 12, .inl (fun _ => 0))), ((a 228), .inl (g 3, 12, .inl (fun _ => 0))), ((a 229), .inl (g 3, 12, .inl (fun _ => 0))), ((a 230), .inl (g 3, 12, .inl (fun _ => 0))), ((a 231), .inl (g 3, 12, .inl (fun _ => 0))), ((a 232), .inl (g 3, 12, .inl (fun _ => 0))), ((a 233), .inl (g 3, 12, .inl (fun _ => 0))), ((a 234), .inl (g 3, 12, .inl (fun _ => 0))), ((a 235), .inl (g 3, 12, .inl (fun _ => 0)))]) hD hS hA [0, 1, 2, 3, 4, 5, 6, 7, 8, 9, 10, 11, 12, 13, 14] rfl
      refine va_calli (va_runV (As := [.int (xs 1), .int (((xs 2).toUInt32 % 65536).toInt32)]) (rest := []) ⟨hx, hb, hml, hown, ht⟩ (k_X15_board l D g z0 _ a (xs 1) (((xs 2).toUInt32 % 65536).toInt32) (isC_i2c _)) (cwV 2 ht (gV w_1153 w_1155 w_1156 w_334 w_1154) rfl rfl rfl (by decide +kernel) (le2 rfl rfl)) ⟨PP.blind, va_recv hK.1 hP (ci := 21) (q0 := 0) rfl rfl, PP.mk' hK hZ hz hAz hS hPc hDc⟩ rfl rfl hl.1 rfl (lv_room (Nat.le_of_ble_eq_true rfl)) dL_law_3581 (le2 rfl rfl)) hS (fun q _ h => hFc q h) hFc (fun r u t H locs ht1 hvm hw hB hz1 hk1 hS => ?_)
      obtain ⟨u0, u1, u2⟩ := u
      rcases hw with hw | hw
      · obtain ⟨rfl, rfl, rfl, rfl, hw⟩ := hw
        rcases hw with hw | hw | hw
        · have c_80 := hw
          exact absurd c_80 c_76
        · obtain ⟨c_81, c_82⟩ := hw
          exact absurd (Int.le_trans (lo_lt c_82) (up_le c_77)) (by decide)
        · obtain ⟨c_83, c_84, c_85, c_86⟩ := hw
          exact absurd c_79 c_86
      · obtain ⟨rfl, rfl, rfl, rfl, hw⟩ := hw
        rcases hw with hw | hw
        · obtain ⟨c_87, c_88, c_89⟩ := hw
          exact absurd c_89 c_78
        · obtain ⟨c_90, c_91, c_92, c_93⟩ := hw
          obtain ⟨hP1, hD1⟩ := hB
          rw [ht1] at hP1
          obtain ⟨hP, hD⟩ := va_join (wr := [(o1, .inl (g 1, 1, .inr (.inl (fun _ => 0))))]) (w1 := [((a 200), .inr (21, [.int 0, .ref (a 201), .ref (a 202), .ref (a 203), .ref (a 204), .ref (a 205), .ref (a 206), .int 0, .int 0, .int 0, .int 0, .ref (a 208), .ref (a 209), .ref (a 210), .ref (a 211), .ref (a 212), .int 4, .int 12, .int (-1), .int 0, .ref (g 200), .ref (a 213), .int (xs 1), .int (((xs 2).toUInt32 % 65536).toInt32), .ref (a 214), .ref (a 215), .ref (a 207), .null, .int 0]))]) hP hD [0, 1, 2, 3, 4, 5, 6, 7, 8, 9, 10, 11, 12, 13, 14] [15] rfl rfl (by decide) (by decide) hk1 hFc hP1 hD1
          have hP : va_P D vwCl [(o1, .inl (g 1, 1, .inr (.inl (fun _ => 0)))), ((a 200), .inr (21, [.int 0, .ref (a 201), .ref (a 202), .ref (a 203), .ref (a 204), .ref (a 205), .ref (a 206), .int 0, .int 0, .int 0, .int 0, .ref (a 208), .ref (a 209), .ref (a 210), .ref (a 211), .ref (a 212), .int 4, .int 12, .int (-1), .int 0, .ref (g 200), .ref (a 213), .int (xs 1), .int (((xs 2).toUInt32 % 65536).toInt32), .ref (a 214), .ref (a 215), .ref (a 207), .null, .int 0]))] H := hP
          have hD : va_D (va_A [] s.heap.size) [(o1, .inl (g 1, 1, .inr (.inl (fun _ => 0)))), ((a 200), .inr (21, [.int 0, .ref (a 201), .ref (a 202), .ref (a 203), .ref (a 204), .ref (a 205), .ref (a 206), .int 0, .int 0, .int 0, .int 0, .ref (a 208), .ref (a 209), .ref (a 210), .ref (a 211), .ref (a 212), .int 4, .int 12, .int (-1), .int 0, .ref (g 200), .ref (a 213), .int (xs 1), .int (((xs 2).toUInt32 % 65536).toInt32), .ref (a 214), .ref (a 215), .ref (a 207), .null, .int 0]))] := hD
          refine lv_istore (lv' := [(7, .int 0), (6, .int 0), (0, .ref b), (1, .ref (a 0)), (2, .ref (a 200)), (3, .ref o1), (4, .ref o2), (5, .int 0)]) hx hb dL_law_3584 hl (by decide) rfl (fun ls hl => ?_)
          refine lv_aload_n hx hb dL_law_3586 rfl (lv_at hl 4 rfl) ?_
          have hPc : va_P D vwCl [((a 200), .inr (21, [.int 0, .ref (a 201), .ref (a 202), .ref (a 203), .ref (a 204), .ref (a 205), .ref (a 206), .int 0, .int 0, .int 0, .int 0, .ref (a 208), .ref (a 209), .ref (a 210), .ref (a 211), .ref (a 212), .int 4, .int 12, .int (-1), .int 0, .ref (g 200), .ref (a 213), .int (xs 1), .int (((xs 2).toUInt32 % 65536).toInt32), .ref (a 214), .ref (a 215), .ref (a 207), .null, .int 0]))] _ := hP.sub (ws' := [((a 200), .inr (21, [.int 0, .ref (a 201), .ref (a 202), .ref (a 203), .ref (a 204), .ref (a 205), .ref (a 206), .int 0, .int 0, .int 0, .int 0, .ref (a 208), .ref (a 209), .ref (a 210), .ref (a 211), .ref (a 212), .int 4, .int 12, .int (-1), .int 0, .ref (g 200), .ref (a 213), .int (xs 1), .int (((xs 2).toUInt32 % 65536).toInt32), .ref (a 214), .ref (a 215), .ref (a 207), .null, .int 0]))]) [1] rfl
          have hDc : va_D (fun q => z0 ≤ q) [((a 200), .inr (21, [.int 0, .ref (a 201), .ref (a 202), .ref (a 203), .ref (a 204), .ref (a 205), .ref (a 206), .int 0, .int 0, .int 0, .int 0, .ref (a 208), .ref (a 209), .ref (a 210), .ref (a 211), .ref (a 212), .int 4, .int 12, .int (-1), .int 0, .ref (g 200), .ref (a 213), .int (xs 1), .int (((xs 2).toUInt32 % 65536).toInt32), .ref (a 214), .ref (a 215), .ref (a 207), .null, .int 0]))] := (hD.to hAz).pick (ws' := [((a 200), .inr (21, [.int 0, .ref (a 201), .ref (a 202), .ref (a 203), .ref (a 204), .ref (a 205), .ref (a 206), .int 0, .int 0, .int 0, .int 0, .ref (a 208), .ref (a 209), .ref (a 210), .ref (a 211), .ref (a 212), .int 4, .int 12, .int (-1), .int 0, .ref (g 200), .ref (a 213), .int (xs 1), .int (((xs 2).toUInt32 % 65536).toInt32), .ref (a 214), .ref (a 215), .ref (a 207), .null, .int 0]))]) [1] (by decide) rfl
          have hFc := va_free (wc := [((a 200), .inr (21, [.int 0, .ref (a 201), .ref (a 202), .ref (a 203), .ref (a 204), .ref (a 205), .ref (a 206), .int 0, .int 0, .int 0, .int 0, .ref (a 208), .ref (a 209), .ref (a 210), .ref (a 211), .ref (a 212), .int 4, .int 12, .int (-1), .int 0, .ref (g 200), .ref (a 213), .int (xs 1), .int (((xs 2).toUInt32 % 65536).toInt32), .ref (a 214), .ref (a 215), .ref (a 207), .null, .int 0]))]) hD hS hA [1] rfl
          refine va_calli (va_runV (As := []) (rest := []) ⟨hx, hb, hml, hown, ht⟩ (k_X15_thrown_v3 l D g z0 _ a (xs 1) (((xs 2).toUInt32 % 65536).toInt32)) (cwV 0 ht (gV w_772 w_774 w_775 w_334 w_773) rfl rfl rfl (by decide +kernel) (le2 rfl rfl)) ⟨PP.blind, va_recv hK.1 hP (ci := 21) (q0 := 1) rfl rfl, PP.mk' hK hZ hz hAz hS hPc hDc⟩ rfl rfl hl.1 rfl (lv_room (Nat.le_of_ble_eq_true rfl)) dL_law_3587 (le2 rfl rfl)) hS (fun q _ h => hFc q h) hFc (fun r u t H locs ht1 hvm hw hB hz1 hk1 hS => ?_)
          obtain ⟨rfl, hw⟩ := hw
          obtain ⟨hP1, hD1⟩ := hB
          rw [ht1] at hP1
          obtain ⟨hP, hD⟩ := va_join (wr := [(o1, .inl (g 1, 1, .inr (.inl (fun _ => 0))))]) (w1 := [((a 200), .inr (21, [.int 0, .ref (a 201), .ref (a 202), .ref (a 203), .ref (a 204), .ref (a 205), .ref (a 206), .int 0, .int 0, .int 0, .int 0, .ref (a 208), .ref (a 209), .ref (a 210), .ref (a 211), .ref (a 212), .int 4, .int 12, .int (-1), .int 0, .ref (g 200), .ref (a 213), .int (xs 1), .int (((xs 2).toUInt32 % 65536).toInt32), .ref (a 214), .ref (a 215), .ref (a 207), .null, .int 0]))]) hP hD [1] [0] rfl rfl (by decide) (by decide) hk1 hFc hP1 hD1
          have hP : va_P D vwCl [(o1, .inl (g 1, 1, .inr (.inl (fun _ => 0)))), ((a 200), .inr (21, [.int 0, .ref (a 201), .ref (a 202), .ref (a 203), .ref (a 204), .ref (a 205), .ref (a 206), .int 0, .int 0, .int 0, .int 0, .ref (a 208), .ref (a 209), .ref (a 210), .ref (a 211), .ref (a 212), .int 4, .int 12, .int (-1), .int 0, .ref (g 200), .ref (a 213), .int (xs 1), .int (((xs 2).toUInt32 % 65536).toInt32), .ref (a 214), .ref (a 215), .ref (a 207), .null, .int 0]))] H := hP
          have hD : va_D (va_A [] s.heap.size) [(o1, .inl (g 1, 1, .inr (.inl (fun _ => 0)))), ((a 200), .inr (21, [.int 0, .ref (a 201), .ref (a 202), .ref (a 203), .ref (a 204), .ref (a 205), .ref (a 206), .int 0, .int 0, .int 0, .int 0, .ref (a 208), .ref (a 209), .ref (a 210), .ref (a 211), .ref (a 212), .int 4, .int 12, .int (-1), .int 0, .ref (g 200), .ref (a 213), .int (xs 1), .int (((xs 2).toUInt32 % 65536).toInt32), .ref (a 214), .ref (a 215), .ref (a 207), .null, .int 0]))] := hD
          refine lv_iload hx hb dL_law_3590 (lv_at hl 1 rfl) ?_
          refine lv_icmp_eq (tgt := 3597) hx hb dL_law_3592 (by decide) (fun c_94 => ?_) (fun c_94 => ?_)
          · refine lv_iload hx hb dL_law_3597 (lv_at hl 1 rfl) ?_
            refine lv_if_ne (tgt := 3614) hx hb dL_law_3599 (by decide) (fun c_95 => ?_) (fun c_95 => ?_)
            · exact absurd c_95 (by decide)
            · refine lv_aload_n hx hb dL_law_3602 rfl (lv_at hl 5 rfl) ?_
              refine lv_iconst (v := 0) hx hb dL_law_3603 (by decide) ?_
              refine va_lald hx hb hK.1 hP 0 1 rfl rfl (by unfold vp_in; decide) dL_law_3604 ?_
              refine r_topl (v := 0) (by decide) ?_
              refine lv_iload hx hb dL_law_3605 (lv_at hl 0 rfl) ?_
              refine lv_i2l (v := 0) hx hb dL_law_3607 (by decide) ?_
              refine W.lcmp hx hb dL_law_3608 ?_
              refine r_topi (v := 0) (by decide) ?_
              refine lv_if_eq (tgt := 3614) hx hb dL_law_3609 (by decide) (fun c_96 => ?_) (fun c_96 => ?_)
              · refine lv_goto (tgt := 4264) hx hb dL_law_3614 (by decide) ?_
                refine W.widen (k := 200 + 300) (n := 8000 + 2000) (Nat.le_of_ble_eq_true rfl) (Nat.le_of_ble_eq_true rfl) ?_
                exact kk _ _ _ hS (lv_sub hl [7, 2] rfl)
              · exact absurd c_96 (by decide)
          · exact absurd c_94 (by decide)
set_option maxHeartbeats 4000000 in
set_option maxRecDepth 100000 in
theorem lw_case_60 {p : Program} {l : Launch} {e : Env} {s : State} {m : MethodId} {below : List Frame} {meth : Method} {c : Code} {H : Heap} {locs : List Loc} {ls : Array Slot} {Q : State → Prop} {D : va_G} {g : Nat → ClassId} {z0 b : Nat} {xs : Nat → Int32} {a : Nat → Nat} {o1 o2 : Nat} (hfl : l.stackTraces = false) (hx : p.tables.exec = Jvm.exec) (hb : c.code = cL_law) (hml : c.maxLocals = 9) (hown : s.vm.findClass RL = some m.cls) (ht : ∀ w ∈ TG, w.before #[Value.ref b] s = true) (hX : va_X b 6 xs s s.heap) (hbl : b < s.heap.size) (hbA : ¬ va_A [] s.heap.size b) (hK : KK D g s) (hZ : ZZ g z0 s) (hz : z0 ≤ s.heap.size) (hAz : ∀ q, va_A [] s.heap.size q → z0 ≤ q) (hP : va_P D vwCl (lwW a g o1 o2) H) (hD : va_D (va_A [] s.heap.size) (lwW a g o1 o2)) (hS : va_S (va_A [] s.heap.size) s.heap H locs) (hl : lv_has ls 9 [(0, .ref b), (1, .ref (a 0)), (2, .ref (a 200)), (3, .ref o1), (4, .ref o2), (5, .int 0)])
    (kk : ∀ (H : Heap) (locs : List Loc) (ls : Array Slot), va_S (va_A [] s.heap.size) s.heap H locs → lv_has ls 9 [(5, .int 0), (0, .ref b)] → W p l e room_1 s m #[Value.ref b] below meth c H locs (200 + 300) (8000 + 2000) Q (F0 m 4264 ls [])) :
    W p l e room_1 s m #[Value.ref b] below meth c H locs 200 8000 Q (F0 m 3617 ls []) := by
  have hA : ∀ q : Nat, s.heap.size ≤ q → va_A [] s.heap.size q := Anw
  have hP := hP.sub (ws' := [((a 0), f_x a), ((a 10), f_wires a), ((a 200), f_m a g), (o1, .inl (g 1, 1, .inr (.inl (fun _ => 0))))]) [0, 21, 26, 61] rfl
  have hD := hD.sub (ws' := [((a 0), f_x a), ((a 10), f_wires a), ((a 200), f_m a g), (o1, .inl (g 1, 1, .inr (.inl (fun _ => 0))))]) [0, 21, 26, 61] (by decide) rfl
  refine lv_aload_n hx hb dL_law_3617 rfl (lv_at hl 1 rfl) ?_
  refine lv_aload_n hx hb dL_law_3618 rfl (lv_at hl 0 rfl) ?_
  refine lv_iload hx hb dL_law_3619 (lv_at hl 5 rfl) ?_
  refine lv_iconst (v := 1) hx hb dL_law_3621 (by decide) ?_
  refine lv_iadd hx hb dL_law_3622 ?_
  refine r_topi (v := 1) (by decide) ?_
  refine va_sld hx hb hX hbl hbA hS (by unfold vp_in; decide) dL_law_3623 ?_
  refine r_topi (v := xs 1) (congrArg xs (by decide)) ?_
  refine lv_aload_n hx hb dL_law_3624 rfl (lv_at hl 0 rfl) ?_
  refine lv_iload hx hb dL_law_3625 (lv_at hl 5 rfl) ?_
  refine lv_iconst (v := 2) hx hb dL_law_3627 (by decide) ?_
  refine lv_iadd hx hb dL_law_3628 ?_
  refine r_topi (v := 2) (by decide) ?_
  refine va_sld hx hb hX hbl hbA hS (by unfold vp_in; decide) dL_law_3629 ?_
  refine r_topi (v := xs 2) (congrArg xs (by decide)) ?_
  refine lv_aload_n hx hb dL_law_3630 rfl (lv_at hl 3 rfl) ?_
  have hPc : va_P D vwCl [(o1, .inl (g 1, 1, .inr (.inl (fun _ => 0)))), ((a 0), f_x a), ((a 10), f_wires a)] _ := hP.sub (ws' := [(o1, .inl (g 1, 1, .inr (.inl (fun _ => 0)))), ((a 0), f_x a), ((a 10), f_wires a)]) [3, 0, 1] rfl
  have hDc : va_D (fun q => z0 ≤ q) [(o1, .inl (g 1, 1, .inr (.inl (fun _ => 0)))), ((a 0), f_x a), ((a 10), f_wires a)] := (hD.to hAz).pick (ws' := [(o1, .inl (g 1, 1, .inr (.inl (fun _ => 0)))), ((a 0), f_x a), ((a 10), f_wires a)]) [3, 0, 1] (by decide) rfl
  have hFc := va_free (wc := [(o1, .inl (g 1, 1, .inr (.inl (fun _ => 0)))), ((a 0), f_x a), ((a 10), f_wires a)]) hD hS hA [3, 0, 1] rfl
  refine va_calli (vx_runSW (As := [.ref (a 0), .int (xs 1), .int (xs 2), .ref o1]) (rest := []) ⟨hx, hb, hml, hown, ht⟩ (k_L_openWire l hfl D g z0 _ a (xs 1) (xs 2) o1) (vx_cwSW 4 ht (gS w_1157 w_1159 w_767 w_1158) rfl rfl rfl (by decide +kernel) (le2 rfl rfl)) ⟨PP.blind, PP.mk' hK hZ hz hAz hS hPc hDc⟩ rfl rfl hl.1 rfl (lv_room (Nat.le_of_ble_eq_true rfl)) dL_law_3631 (le2 rfl rfl)) hS (fun q _ h => hFc q h) hFc (fun r u t H locs ht1 hvm hw hB hz1 hk1 hS => ?_)
  obtain ⟨rfl, hw⟩ := hw
  obtain ⟨hP1, hD1⟩ := hB
  rw [ht1] at hP1
  obtain ⟨hP, hD⟩ := va_join (wr := [((a 200), f_m a g)]) (w1 := [(o1, .inl (g 1, 1, .inr (.inl (fun _ => 0))))]) hP hD [3, 0, 1] [2] rfl rfl (by decide) (by decide) hk1 hFc hP1 hD1
  have hP : va_P D vwCl [((a 200), f_m a g), (o1, .inl (g 1, 1, .inr (.inl (fun _ => 0))))] H := hP
  have hD : va_D (va_A [] s.heap.size) [((a 200), f_m a g), (o1, .inl (g 1, 1, .inr (.inl (fun _ => 0))))] := hD
  refine lv_istore (lv' := [(6, .int 1), (0, .ref b), (1, .ref (a 0)), (2, .ref (a 200)), (3, .ref o1), (4, .ref o2), (5, .int 0)]) hx hb dL_law_3634 hl (by decide) rfl (fun ls hl => ?_)
  refine lv_aload_n hx hb dL_law_3636 rfl (lv_at hl 3 rfl) ?_
  refine lv_aload_n hx hb dL_law_3637 rfl (lv_at hl 1 rfl) ?_
  refine lv_iload hx hb dL_law_3638 (lv_at hl 6 rfl) ?_
  refine lv_iconst (v := 1) hx hb dL_law_3640 (by decide) ?_
  refine lv_iadd hx hb dL_law_3641 ?_
  refine r_topi (v := 1) (by decide) ?_
  refine va_sld hx hb hX hbl hbA hS (by unfold vp_in; decide) dL_law_3642 ?_
  refine r_topi (v := xs 1) (congrArg xs (by decide)) ?_
  refine lv_aload_n hx hb dL_law_3643 rfl (lv_at hl 1 rfl) ?_
  refine lv_iload hx hb dL_law_3644 (lv_at hl 6 rfl) ?_
  refine lv_iconst (v := 2) hx hb dL_law_3646 (by decide) ?_
  refine lv_iadd hx hb dL_law_3647 ?_
  refine r_topi (v := 2) (by decide) ?_
  refine va_sld hx hb hX hbl hbA hS (by unfold vp_in; decide) dL_law_3648 ?_
  refine r_topi (v := xs 2) (congrArg xs (by decide)) ?_
  have hPc : va_P D vwCl [((a 200), f_m a g)] _ := hP.sub (ws' := [((a 200), f_m a g)]) [0] rfl
  have hDc : va_D (fun q => z0 ≤ q) [((a 200), f_m a g)] := (hD.to hAz).pick (ws' := [((a 200), f_m a g)]) [0] (by decide) rfl
  have hFc := va_free (wc := [((a 200), f_m a g)]) hD hS hA [0] rfl
  refine va_calli (va_runV (As := [.int (xs 1), .int (xs 2)]) (rest := []) ⟨hx, hb, hml, hown, ht⟩ (k_X15_openWire l D g z0 _ a (xs 1) (xs 2)) (cwV 2 ht (gV w_1160 w_1162 w_1163 w_334 w_1161) rfl rfl rfl (by decide +kernel) (le2 rfl rfl)) ⟨PP.blind, va_recv hK.1 hP (ci := 21) (q0 := 0) rfl rfl, PP.mk' hK hZ hz hAz hS hPc hDc⟩ rfl rfl hl.1 rfl (lv_room (Nat.le_of_ble_eq_true rfl)) dL_law_3649 (le2 rfl rfl)) hS (fun q _ h => hFc q h) hFc (fun r u t H locs ht1 hvm hw hB hz1 hk1 hS => ?_)
  obtain ⟨rfl, hw⟩ := hw
  obtain ⟨hP1, hD1⟩ := hB
  rw [ht1] at hP1
  obtain ⟨hP, hD⟩ := va_join (wr := [(o1, .inl (g 1, 1, .inr (.inl (fun _ => 0))))]) (w1 := [((a 200), .inr (21, [.int 1, .ref (a 201), .ref (a 202), .ref (a 203), .ref (a 204), .ref (a 205), .ref (a 206), .int 0, .int 0, .int 0, .int 0, .ref (a 208), .ref (a 209), .ref (a 210), .ref (a 211), .ref (a 212), .int 4, .int 12, .int (-1), .int 0, .ref (g 200), .ref (a 213), .int 0, .int 97, .ref (a 214), .ref (a 215), .ref (a 207), .null, .int 0]))]) hP hD [0] [1] rfl rfl (by decide) (by decide) hk1 hFc hP1 hD1
  have hP : va_P D vwCl [(o1, .inl (g 1, 1, .inr (.inl (fun _ => 0)))), ((a 200), .inr (21, [.int 1, .ref (a 201), .ref (a 202), .ref (a 203), .ref (a 204), .ref (a 205), .ref (a 206), .int 0, .int 0, .int 0, .int 0, .ref (a 208), .ref (a 209), .ref (a 210), .ref (a 211), .ref (a 212), .int 4, .int 12, .int (-1), .int 0, .ref (g 200), .ref (a 213), .int 0, .int 97, .ref (a 214), .ref (a 215), .ref (a 207), .null, .int 0]))] H := hP
  have hD : va_D (va_A [] s.heap.size) [(o1, .inl (g 1, 1, .inr (.inl (fun _ => 0)))), ((a 200), .inr (21, [.int 1, .ref (a 201), .ref (a 202), .ref (a 203), .ref (a 204), .ref (a 205), .ref (a 206), .int 0, .int 0, .int 0, .int 0, .ref (a 208), .ref (a 209), .ref (a 210), .ref (a 211), .ref (a 212), .int 4, .int 12, .int (-1), .int 0, .ref (g 200), .ref (a 213), .int 0, .int 97, .ref (a 214), .ref (a 215), .ref (a 207), .null, .int 0]))] := hD
  refine lv_istore (lv' := [(7, .int 0), (6, .int 1), (0, .ref b), (1, .ref (a 0)), (2, .ref (a 200)), (3, .ref o1), (4, .ref o2), (5, .int 0)]) hx hb dL_law_3652 hl (by decide) rfl (fun ls hl => ?_)
  refine lv_aload_n hx hb dL_law_3654 rfl (lv_at hl 4 rfl) ?_
  have hPc : va_P D vwCl [((a 200), .inr (21, [.int 1, .ref (a 201), .ref (a 202), .ref (a 203), .ref (a 204), .ref (a 205), .ref (a 206), .int 0, .int 0, .int 0, .int 0, .ref (a 208), .ref (a 209), .ref (a 210), .ref (a 211), .ref (a 212), .int 4, .int 12, .int (-1), .int 0, .ref (g 200), .ref (a 213), .int 0, .int 97, .ref (a 214), .ref (a 215), .ref (a 207), .null, .int 0]))] _ := hP.sub (ws' := [((a 200), .inr (21, [.int 1, .ref (a 201), .ref (a 202), .ref (a 203), .ref (a 204), .ref (a 205), .ref (a 206), .int 0, .int 0, .int 0, .int 0, .ref (a 208), .ref (a 209), .ref (a 210), .ref (a 211), .ref (a 212), .int 4, .int 12, .int (-1), .int 0, .ref (g 200), .ref (a 213), .int 0, .int 97, .ref (a 214), .ref (a 215), .ref (a 207), .null, .int 0]))]) [1] rfl
  have hDc : va_D (fun q => z0 ≤ q) [((a 200), .inr (21, [.int 1, .ref (a 201), .ref (a 202), .ref (a 203), .ref (a 204), .ref (a 205), .ref (a 206), .int 0, .int 0, .int 0, .int 0, .ref (a 208), .ref (a 209), .ref (a 210), .ref (a 211), .ref (a 212), .int 4, .int 12, .int (-1), .int 0, .ref (g 200), .ref (a 213), .int 0, .int 97, .ref (a 214), .ref (a 215), .ref (a 207), .null, .int 0]))] := (hD.to hAz).pick (ws' := [((a 200), .inr (21, [.int 1, .ref (a 201), .ref (a 202), .ref (a 203), .ref (a 204), .ref (a 205), .ref (a 206), .int 0, .int 0, .int 0, .int 0, .ref (a 208), .ref (a 209), .ref (a 210), .ref (a 211), .ref (a 212), .int 4, .int 12, .int (-1), .int 0, .ref (g 200), .ref (a 213), .int 0, .int 97, .ref (a 214), .ref (a 215), .ref (a 207), .null, .int 0]))]) [1] (by decide) rfl
  have hFc := va_free (wc := [((a 200), .inr (21, [.int 1, .ref (a 201), .ref (a 202), .ref (a 203), .ref (a 204), .ref (a 205), .ref (a 206), .int 0, .int 0, .int 0, .int 0, .ref (a 208), .ref (a 209), .ref (a 210), .ref (a 211), .ref (a 212), .int 4, .int 12, .int (-1), .int 0, .ref (g 200), .ref (a 213), .int 0, .int 97, .ref (a 214), .ref (a 215), .ref (a 207), .null, .int 0]))]) hD hS hA [1] rfl
  refine va_calli (va_runV (As := []) (rest := []) ⟨hx, hb, hml, hown, ht⟩ (k_X15_thrown_v2 l D g z0 _ a) (cwV 0 ht (gV w_772 w_774 w_775 w_334 w_773) rfl rfl rfl (by decide +kernel) (le2 rfl rfl)) ⟨PP.blind, va_recv hK.1 hP (ci := 21) (q0 := 1) rfl rfl, PP.mk' hK hZ hz hAz hS hPc hDc⟩ rfl rfl hl.1 rfl (lv_room (Nat.le_of_ble_eq_true rfl)) dL_law_3655 (le2 rfl rfl)) hS (fun q _ h => hFc q h) hFc (fun r u t H locs ht1 hvm hw hB hz1 hk1 hS => ?_)
  obtain ⟨rfl, hw⟩ := hw
  obtain ⟨hP1, hD1⟩ := hB
  rw [ht1] at hP1
  obtain ⟨hP, hD⟩ := va_join (wr := [(o1, .inl (g 1, 1, .inr (.inl (fun _ => 0))))]) (w1 := [((a 200), .inr (21, [.int 1, .ref (a 201), .ref (a 202), .ref (a 203), .ref (a 204), .ref (a 205), .ref (a 206), .int 0, .int 0, .int 0, .int 0, .ref (a 208), .ref (a 209), .ref (a 210), .ref (a 211), .ref (a 212), .int 4, .int 12, .int (-1), .int 0, .ref (g 200), .ref (a 213), .int 0, .int 97, .ref (a 214), .ref (a 215), .ref (a 207), .null, .int 0]))]) hP hD [1] [0] rfl rfl (by decide) (by decide) hk1 hFc hP1 hD1
  have hP : va_P D vwCl [(o1, .inl (g 1, 1, .inr (.inl (fun _ => 0)))), ((a 200), .inr (21, [.int 1, .ref (a 201), .ref (a 202), .ref (a 203), .ref (a 204), .ref (a 205), .ref (a 206), .int 0, .int 0, .int 0, .int 0, .ref (a 208), .ref (a 209), .ref (a 210), .ref (a 211), .ref (a 212), .int 4, .int 12, .int (-1), .int 0, .ref (g 200), .ref (a 213), .int 0, .int 97, .ref (a 214), .ref (a 215), .ref (a 207), .null, .int 0]))] H := hP
  have hD : va_D (va_A [] s.heap.size) [(o1, .inl (g 1, 1, .inr (.inl (fun _ => 0)))), ((a 200), .inr (21, [.int 1, .ref (a 201), .ref (a 202), .ref (a 203), .ref (a 204), .ref (a 205), .ref (a 206), .int 0, .int 0, .int 0, .int 0, .ref (a 208), .ref (a 209), .ref (a 210), .ref (a 211), .ref (a 212), .int 4, .int 12, .int (-1), .int 0, .ref (g 200), .ref (a 213), .int 0, .int 97, .ref (a 214), .ref (a 215), .ref (a 207), .null, .int 0]))] := hD
  refine lv_iload hx hb dL_law_3658 (lv_at hl 1 rfl) ?_
  refine lv_icmp_eq (tgt := 3665) hx hb dL_law_3660 (by decide) (fun c_1 => ?_) (fun c_1 => ?_)
  · refine lv_iload hx hb dL_law_3665 (lv_at hl 1 rfl) ?_
    refine lv_if_ne (tgt := 3689) hx hb dL_law_3667 (by decide) (fun c_2 => ?_) (fun c_2 => ?_)
    · refine lv_goto (tgt := 4264) hx hb dL_law_3689 (by decide) ?_
      refine W.widen (k := 200 + 300) (n := 8000 + 2000) (Nat.le_of_ble_eq_true rfl) (Nat.le_of_ble_eq_true rfl) ?_
      exact kk _ _ _ hS (lv_sub hl [7, 2] rfl)
    · exact absurd c_2 (by decide)
  · exact absurd c_1 (by decide)
set_option maxHeartbeats 4000000 in
set_option maxRecDepth 100000 in
theorem lw_case_61 {p : Program} {l : Launch} {e : Env} {s : State} {m : MethodId} {below : List Frame} {meth : Method} {c : Code} {H : Heap} {locs : List Loc} {ls : Array Slot} {Q : State → Prop} {D : va_G} {g : Nat → ClassId} {z0 b : Nat} {xs : Nat → Int32} {a : Nat → Nat} {o1 o2 : Nat} (hfl : l.stackTraces = false) (hx : p.tables.exec = Jvm.exec) (hb : c.code = cL_law) (hml : c.maxLocals = 9) (hown : s.vm.findClass RL = some m.cls) (ht : ∀ w ∈ TG, w.before #[Value.ref b] s = true) (hX : va_X b 6 xs s s.heap) (hbl : b < s.heap.size) (hbA : ¬ va_A [] s.heap.size b) (hK : KK D g s) (hZ : ZZ g z0 s) (hz : z0 ≤ s.heap.size) (hAz : ∀ q, va_A [] s.heap.size q → z0 ≤ q) (hP : va_P D vwCl (lwW a g o1 o2) H) (hD : va_D (va_A [] s.heap.size) (lwW a g o1 o2)) (hS : va_S (va_A [] s.heap.size) s.heap H locs) (hl : lv_has ls 9 [(0, .ref b), (1, .ref (a 0)), (2, .ref (a 200)), (3, .ref o1), (4, .ref o2), (5, .int 0)])
    (kk : ∀ (H : Heap) (locs : List Loc) (ls : Array Slot), va_S (va_A [] s.heap.size) s.heap H locs → lv_has ls 9 [(5, .int 0), (0, .ref b)] → W p l e room_1 s m #[Value.ref b] below meth c H locs (200 + 300) (8000 + 2000) Q (F0 m 4264 ls [])) :
    W p l e room_1 s m #[Value.ref b] below meth c H locs 200 8000 Q (F0 m 3692 ls []) := by
  have hA : ∀ q : Nat, s.heap.size ≤ q → va_A [] s.heap.size q := Anw
  have hP := hP.sub (ws' := [((a 0), f_x a), ((a 10), f_wires a), ((a 200), f_m a g), (o1, .inl (g 1, 1, .inr (.inl (fun _ => 0))))]) [0, 21, 26, 61] rfl
  have hD := hD.sub (ws' := [((a 0), f_x a), ((a 10), f_wires a), ((a 200), f_m a g), (o1, .inl (g 1, 1, .inr (.inl (fun _ => 0))))]) [0, 21, 26, 61] (by decide) rfl
  refine lv_aload_n hx hb dL_law_3692 rfl (lv_at hl 1 rfl) ?_
  refine lv_aload_n hx hb dL_law_3693 rfl (lv_at hl 0 rfl) ?_
  refine lv_iload hx hb dL_law_3694 (lv_at hl 5 rfl) ?_
  refine lv_iconst (v := 1) hx hb dL_law_3696 (by decide) ?_
  refine lv_iadd hx hb dL_law_3697 ?_
  refine r_topi (v := 1) (by decide) ?_
  refine va_sld hx hb hX hbl hbA hS (by unfold vp_in; decide) dL_law_3698 ?_
  refine r_topi (v := xs 1) (congrArg xs (by decide)) ?_
  refine lv_aload_n hx hb dL_law_3699 rfl (lv_at hl 0 rfl) ?_
  refine lv_iload hx hb dL_law_3700 (lv_at hl 5 rfl) ?_
  refine lv_iconst (v := 2) hx hb dL_law_3702 (by decide) ?_
  refine lv_iadd hx hb dL_law_3703 ?_
  refine r_topi (v := 2) (by decide) ?_
  refine va_sld hx hb hX hbl hbA hS (by unfold vp_in; decide) dL_law_3704 ?_
  refine r_topi (v := xs 2) (congrArg xs (by decide)) ?_
  refine lv_aload_n hx hb dL_law_3705 rfl (lv_at hl 3 rfl) ?_
  have hPc : va_P D vwCl [(o1, .inl (g 1, 1, .inr (.inl (fun _ => 0)))), ((a 0), f_x a), ((a 10), f_wires a)] _ := hP.sub (ws' := [(o1, .inl (g 1, 1, .inr (.inl (fun _ => 0)))), ((a 0), f_x a), ((a 10), f_wires a)]) [3, 0, 1] rfl
  have hDc : va_D (fun q => z0 ≤ q) [(o1, .inl (g 1, 1, .inr (.inl (fun _ => 0)))), ((a 0), f_x a), ((a 10), f_wires a)] := (hD.to hAz).pick (ws' := [(o1, .inl (g 1, 1, .inr (.inl (fun _ => 0)))), ((a 0), f_x a), ((a 10), f_wires a)]) [3, 0, 1] (by decide) rfl
  have hFc := va_free (wc := [(o1, .inl (g 1, 1, .inr (.inl (fun _ => 0)))), ((a 0), f_x a), ((a 10), f_wires a)]) hD hS hA [3, 0, 1] rfl
  refine va_calli (vx_runSW (As := [.ref (a 0), .int (xs 1), .int (xs 2), .ref o1]) (rest := []) ⟨hx, hb, hml, hown, ht⟩ (k_L_shortWires l hfl D g z0 _ a (xs 1) (xs 2) o1) (vx_cwSW 4 ht (gS w_1164 w_1166 w_767 w_1165) rfl rfl rfl (by decide +kernel) (le2 rfl rfl)) ⟨PP.blind, PP.mk' hK hZ hz hAz hS hPc hDc⟩ rfl rfl hl.1 rfl (lv_room (Nat.le_of_ble_eq_true rfl)) dL_law_3706 (le2 rfl rfl)) hS (fun q _ h => hFc q h) hFc (fun r u t H locs ht1 hvm hw hB hz1 hk1 hS => ?_)
  obtain ⟨rfl, hw⟩ := hw
  obtain ⟨hP1, hD1⟩ := hB
  rw [ht1] at hP1
  obtain ⟨hP, hD⟩ := va_join (wr := [((a 200), f_m a g)]) (w1 := [(o1, .inl (g 1, 1, .inr (.inl (fun _ => 0))))]) hP hD [3, 0, 1] [2] rfl rfl (by decide) (by decide) hk1 hFc hP1 hD1
  have hP : va_P D vwCl [((a 200), f_m a g), (o1, .inl (g 1, 1, .inr (.inl (fun _ => 0))))] H := hP
  have hD : va_D (va_A [] s.heap.size) [((a 200), f_m a g), (o1, .inl (g 1, 1, .inr (.inl (fun _ => 0))))] := hD
  refine lv_istore (lv' := [(6, .int 1), (0, .ref b), (1, .ref (a 0)), (2, .ref (a 200)), (3, .ref o1), (4, .ref o2), (5, .int 0)]) hx hb dL_law_3709 hl (by decide) rfl (fun ls hl => ?_)
  refine lv_aload_n hx hb dL_law_3711 rfl (lv_at hl 3 rfl) ?_
  refine lv_aload_n hx hb dL_law_3712 rfl (lv_at hl 1 rfl) ?_
  refine lv_iload hx hb dL_law_3713 (lv_at hl 6 rfl) ?_
  refine lv_iconst (v := 1) hx hb dL_law_3715 (by decide) ?_
  refine lv_iadd hx hb dL_law_3716 ?_
  refine r_topi (v := 1) (by decide) ?_
  refine va_sld hx hb hX hbl hbA hS (by unfold vp_in; decide) dL_law_3717 ?_
  refine r_topi (v := xs 1) (congrArg xs (by decide)) ?_
  refine lv_aload_n hx hb dL_law_3718 rfl (lv_at hl 1 rfl) ?_
  refine lv_iload hx hb dL_law_3719 (lv_at hl 6 rfl) ?_
  refine lv_iconst (v := 2) hx hb dL_law_3721 (by decide) ?_
  refine lv_iadd hx hb dL_law_3722 ?_
  refine r_topi (v := 2) (by decide) ?_
  refine va_sld hx hb hX hbl hbA hS (by unfold vp_in; decide) dL_law_3723 ?_
  refine r_topi (v := xs 2) (congrArg xs (by decide)) ?_
  have hPc : va_P D vwCl [((a 200), f_m a g)] _ := hP.sub (ws' := [((a 200), f_m a g)]) [0] rfl
  have hDc : va_D (fun q => z0 ≤ q) [((a 200), f_m a g)] := (hD.to hAz).pick (ws' := [((a 200), f_m a g)]) [0] (by decide) rfl
  have hFc := va_free (wc := [((a 200), f_m a g)]) hD hS hA [0] rfl
  refine va_calli (va_runV (As := [.int (xs 1), .int (xs 2)]) (rest := []) ⟨hx, hb, hml, hown, ht⟩ (k_X15_shortWires l D g z0 _ a (xs 1) (xs 2)) (cwV 2 ht (gV w_1167 w_1169 w_1170 w_334 w_1168) rfl rfl rfl (by decide +kernel) (le2 rfl rfl)) ⟨PP.blind, va_recv hK.1 hP (ci := 21) (q0 := 0) rfl rfl, PP.mk' hK hZ hz hAz hS hPc hDc⟩ rfl rfl hl.1 rfl (lv_room (Nat.le_of_ble_eq_true rfl)) dL_law_3724 (le2 rfl rfl)) hS (fun q _ h => hFc q h) hFc (fun r u t H locs ht1 hvm hw hB hz1 hk1 hS => ?_)
  obtain ⟨rfl, hw⟩ := hw
  obtain ⟨hP1, hD1⟩ := hB
  rw [ht1] at hP1
  obtain ⟨hP, hD⟩ := va_join (wr := [(o1, .inl (g 1, 1, .inr (.inl (fun _ => 0))))]) (w1 := [((a 200), .inr (21, [.int 1, .ref (a 201), .ref (a 202), .ref (a 203), .ref (a 204), .ref (a 205), .ref (a 206), .int 0, .int 0, .int 0, .int 0, .ref (a 208), .ref (a 209), .ref (a 210), .ref (a 211), .ref (a 212), .int 4, .int 12, .int (-1), .int 0, .ref (g 200), .ref (a 213), .int 0, .int 97, .ref (a 214), .ref (a 215), .ref (a 207), .null, .int 0]))]) hP hD [0] [1] rfl rfl (by decide) (by decide) hk1 hFc hP1 hD1
  have hP : va_P D vwCl [(o1, .inl (g 1, 1, .inr (.inl (fun _ => 0)))), ((a 200), .inr (21, [.int 1, .ref (a 201), .ref (a 202), .ref (a 203), .ref (a 204), .ref (a 205), .ref (a 206), .int 0, .int 0, .int 0, .int 0, .ref (a 208), .ref (a 209), .ref (a 210), .ref (a 211), .ref (a 212), .int 4, .int 12, .int (-1), .int 0, .ref (g 200), .ref (a 213), .int 0, .int 97, .ref (a 214), .ref (a 215), .ref (a 207), .null, .int 0]))] H := hP
  have hD : va_D (va_A [] s.heap.size) [(o1, .inl (g 1, 1, .inr (.inl (fun _ => 0)))), ((a 200), .inr (21, [.int 1, .ref (a 201), .ref (a 202), .ref (a 203), .ref (a 204), .ref (a 205), .ref (a 206), .int 0, .int 0, .int 0, .int 0, .ref (a 208), .ref (a 209), .ref (a 210), .ref (a 211), .ref (a 212), .int 4, .int 12, .int (-1), .int 0, .ref (g 200), .ref (a 213), .int 0, .int 97, .ref (a 214), .ref (a 215), .ref (a 207), .null, .int 0]))] := hD
  refine lv_istore (lv' := [(7, .int 0), (6, .int 1), (0, .ref b), (1, .ref (a 0)), (2, .ref (a 200)), (3, .ref o1), (4, .ref o2), (5, .int 0)]) hx hb dL_law_3727 hl (by decide) rfl (fun ls hl => ?_)
  refine lv_aload_n hx hb dL_law_3729 rfl (lv_at hl 4 rfl) ?_
  have hPc : va_P D vwCl [((a 200), .inr (21, [.int 1, .ref (a 201), .ref (a 202), .ref (a 203), .ref (a 204), .ref (a 205), .ref (a 206), .int 0, .int 0, .int 0, .int 0, .ref (a 208), .ref (a 209), .ref (a 210), .ref (a 211), .ref (a 212), .int 4, .int 12, .int (-1), .int 0, .ref (g 200), .ref (a 213), .int 0, .int 97, .ref (a 214), .ref (a 215), .ref (a 207), .null, .int 0]))] _ := hP.sub (ws' := [((a 200), .inr (21, [.int 1, .ref (a 201), .ref (a 202), .ref (a 203), .ref (a 204), .ref (a 205), .ref (a 206), .int 0, .int 0, .int 0, .int 0, .ref (a 208), .ref (a 209), .ref (a 210), .ref (a 211), .ref (a 212), .int 4, .int 12, .int (-1), .int 0, .ref (g 200), .ref (a 213), .int 0, .int 97, .ref (a 214), .ref (a 215), .ref (a 207), .null, .int 0]))]) [1] rfl
  have hDc : va_D (fun q => z0 ≤ q) [((a 200), .inr (21, [.int 1, .ref (a 201), .ref (a 202), .ref (a 203), .ref (a 204), .ref (a 205), .ref (a 206), .int 0, .int 0, .int 0, .int 0, .ref (a 208), .ref (a 209), .ref (a 210), .ref (a 211), .ref (a 212), .int 4, .int 12, .int (-1), .int 0, .ref (g 200), .ref (a 213), .int 0, .int 97, .ref (a 214), .ref (a 215), .ref (a 207), .null, .int 0]))] := (hD.to hAz).pick (ws' := [((a 200), .inr (21, [.int 1, .ref (a 201), .ref (a 202), .ref (a 203), .ref (a 204), .ref (a 205), .ref (a 206), .int 0, .int 0, .int 0, .int 0, .ref (a 208), .ref (a 209), .ref (a 210), .ref (a 211), .ref (a 212), .int 4, .int 12, .int (-1), .int 0, .ref (g 200), .ref (a 213), .int 0, .int 97, .ref (a 214), .ref (a 215), .ref (a 207), .null, .int 0]))]) [1] (by decide) rfl
  have hFc := va_free (wc := [((a 200), .inr (21, [.int 1, .ref (a 201), .ref (a 202), .ref (a 203), .ref (a 204), .ref (a 205), .ref (a 206), .int 0, .int 0, .int 0, .int 0, .ref (a 208), .ref (a 209), .ref (a 210), .ref (a 211), .ref (a 212), .int 4, .int 12, .int (-1), .int 0, .ref (g 200), .ref (a 213), .int 0, .int 97, .ref (a 214), .ref (a 215), .ref (a 207), .null, .int 0]))]) hD hS hA [1] rfl
  refine va_calli (va_runV (As := []) (rest := []) ⟨hx, hb, hml, hown, ht⟩ (k_X15_thrown_v2 l D g z0 _ a) (cwV 0 ht (gV w_772 w_774 w_775 w_334 w_773) rfl rfl rfl (by decide +kernel) (le2 rfl rfl)) ⟨PP.blind, va_recv hK.1 hP (ci := 21) (q0 := 1) rfl rfl, PP.mk' hK hZ hz hAz hS hPc hDc⟩ rfl rfl hl.1 rfl (lv_room (Nat.le_of_ble_eq_true rfl)) dL_law_3730 (le2 rfl rfl)) hS (fun q _ h => hFc q h) hFc (fun r u t H locs ht1 hvm hw hB hz1 hk1 hS => ?_)
  obtain ⟨rfl, hw⟩ := hw
  obtain ⟨hP1, hD1⟩ := hB
  rw [ht1] at hP1
  obtain ⟨hP, hD⟩ := va_join (wr := [(o1, .inl (g 1, 1, .inr (.inl (fun _ => 0))))]) (w1 := [((a 200), .inr (21, [.int 1, .ref (a 201), .ref (a 202), .ref (a 203), .ref (a 204), .ref (a 205), .ref (a 206), .int 0, .int 0, .int 0, .int 0, .ref (a 208), .ref (a 209), .ref (a 210), .ref (a 211), .ref (a 212), .int 4, .int 12, .int (-1), .int 0, .ref (g 200), .ref (a 213), .int 0, .int 97, .ref (a 214), .ref (a 215), .ref (a 207), .null, .int 0]))]) hP hD [1] [0] rfl rfl (by decide) (by decide) hk1 hFc hP1 hD1
  have hP : va_P D vwCl [(o1, .inl (g 1, 1, .inr (.inl (fun _ => 0)))), ((a 200), .inr (21, [.int 1, .ref (a 201), .ref (a 202), .ref (a 203), .ref (a 204), .ref (a 205), .ref (a 206), .int 0, .int 0, .int 0, .int 0, .ref (a 208), .ref (a 209), .ref (a 210), .ref (a 211), .ref (a 212), .int 4, .int 12, .int (-1), .int 0, .ref (g 200), .ref (a 213), .int 0, .int 97, .ref (a 214), .ref (a 215), .ref (a 207), .null, .int 0]))] H := hP
  have hD : va_D (va_A [] s.heap.size) [(o1, .inl (g 1, 1, .inr (.inl (fun _ => 0)))), ((a 200), .inr (21, [.int 1, .ref (a 201), .ref (a 202), .ref (a 203), .ref (a 204), .ref (a 205), .ref (a 206), .int 0, .int 0, .int 0, .int 0, .ref (a 208), .ref (a 209), .ref (a 210), .ref (a 211), .ref (a 212), .int 4, .int 12, .int (-1), .int 0, .ref (g 200), .ref (a 213), .int 0, .int 97, .ref (a 214), .ref (a 215), .ref (a 207), .null, .int 0]))] := hD
  refine lv_iload hx hb dL_law_3733 (lv_at hl 1 rfl) ?_
  refine lv_icmp_eq (tgt := 3740) hx hb dL_law_3735 (by decide) (fun c_1 => ?_) (fun c_1 => ?_)
  · refine lv_iload hx hb dL_law_3740 (lv_at hl 1 rfl) ?_
    refine lv_if_ne (tgt := 3757) hx hb dL_law_3742 (by decide) (fun c_2 => ?_) (fun c_2 => ?_)
    · refine lv_goto (tgt := 4264) hx hb dL_law_3757 (by decide) ?_
      refine W.widen (k := 200 + 300) (n := 8000 + 2000) (Nat.le_of_ble_eq_true rfl) (Nat.le_of_ble_eq_true rfl) ?_
      exact kk _ _ _ hS (lv_sub hl [7, 2] rfl)
    · exact absurd c_2 (by decide)
  · exact absurd c_1 (by decide)
set_option maxHeartbeats 4000000 in
set_option maxRecDepth 100000 in
theorem lw_case_62 {p : Program} {l : Launch} {e : Env} {s : State} {m : MethodId} {below : List Frame} {meth : Method} {c : Code} {H : Heap} {locs : List Loc} {ls : Array Slot} {Q : State → Prop} {D : va_G} {g : Nat → ClassId} {z0 b : Nat} {xs : Nat → Int32} {a : Nat → Nat} {o1 o2 : Nat} (hfl : l.stackTraces = false) (hx : p.tables.exec = Jvm.exec) (hb : c.code = cL_law) (hml : c.maxLocals = 9) (hown : s.vm.findClass RL = some m.cls) (ht : ∀ w ∈ TG, w.before #[Value.ref b] s = true) (hX : va_X b 6 xs s s.heap) (hbl : b < s.heap.size) (hbA : ¬ va_A [] s.heap.size b) (hK : KK D g s) (hZ : ZZ g z0 s) (hz : z0 ≤ s.heap.size) (hAz : ∀ q, va_A [] s.heap.size q → z0 ≤ q) (hP : va_P D vwCl (lwW a g o1 o2) H) (hD : va_D (va_A [] s.heap.size) (lwW a g o1 o2)) (hS : va_S (va_A [] s.heap.size) s.heap H locs) (hl : lv_has ls 9 [(0, .ref b), (1, .ref (a 0)), (2, .ref (a 200)), (3, .ref o1), (4, .ref o2), (5, .int 0)])
    (kk : ∀ (H : Heap) (locs : List Loc) (ls : Array Slot), va_S (va_A [] s.heap.size) s.heap H locs → lv_has ls 9 [(5, .int 0), (0, .ref b)] → W p l e room_1 s m #[Value.ref b] below meth c H locs (200 + 300) (8000 + 2000) Q (F0 m 4264 ls [])) :
    W p l e room_1 s m #[Value.ref b] below meth c H locs 200 8000 Q (F0 m 3760 ls []) := by
  have hA : ∀ q : Nat, s.heap.size ≤ q → va_A [] s.heap.size q := Anw
  have hP := hP.sub (ws' := [((a 0), f_x a), ((a 10), f_wires a), ((a 200), f_m a g), (o1, .inl (g 1, 1, .inr (.inl (fun _ => 0))))]) [0, 21, 26, 61] rfl
  have hD := hD.sub (ws' := [((a 0), f_x a), ((a 10), f_wires a), ((a 200), f_m a g), (o1, .inl (g 1, 1, .inr (.inl (fun _ => 0))))]) [0, 21, 26, 61] (by decide) rfl
  refine lv_aload_n hx hb dL_law_3760 rfl (lv_at hl 1 rfl) ?_
  refine lv_aload_n hx hb dL_law_3761 rfl (lv_at hl 0 rfl) ?_
  refine lv_iload hx hb dL_law_3762 (lv_at hl 5 rfl) ?_
  refine lv_iconst (v := 1) hx hb dL_law_3764 (by decide) ?_
  refine lv_iadd hx hb dL_law_3765 ?_
  refine r_topi (v := 1) (by decide) ?_
  refine va_sld hx hb hX hbl hbA hS (by unfold vp_in; decide) dL_law_3766 ?_
  refine r_topi (v := xs 1) (congrArg xs (by decide)) ?_
  refine lv_aload_n hx hb dL_law_3767 rfl (lv_at hl 0 rfl) ?_
  refine lv_iload hx hb dL_law_3768 (lv_at hl 5 rfl) ?_
  refine lv_iconst (v := 2) hx hb dL_law_3770 (by decide) ?_
  refine lv_iadd hx hb dL_law_3771 ?_
  refine r_topi (v := 2) (by decide) ?_
  refine va_sld hx hb hX hbl hbA hS (by unfold vp_in; decide) dL_law_3772 ?_
  refine r_topi (v := xs 2) (congrArg xs (by decide)) ?_
  refine lv_i2c (v := ((xs 2).toUInt32 % 65536).toInt32) hx hb dL_law_3773 rfl ?_
  refine lv_aload_n hx hb dL_law_3774 rfl (lv_at hl 3 rfl) ?_
  have hPc : va_P D vwCl [(o1, .inl (g 1, 1, .inr (.inl (fun _ => 0)))), ((a 0), f_x a), ((a 10), f_wires a)] _ := hP.sub (ws' := [(o1, .inl (g 1, 1, .inr (.inl (fun _ => 0)))), ((a 0), f_x a), ((a 10), f_wires a)]) [3, 0, 1] rfl
  have hDc : va_D (fun q => z0 ≤ q) [(o1, .inl (g 1, 1, .inr (.inl (fun _ => 0)))), ((a 0), f_x a), ((a 10), f_wires a)] := (hD.to hAz).pick (ws' := [(o1, .inl (g 1, 1, .inr (.inl (fun _ => 0)))), ((a 0), f_x a), ((a 10), f_wires a)]) [3, 0, 1] (by decide) rfl
  have hFc := va_free (wc := [(o1, .inl (g 1, 1, .inr (.inl (fun _ => 0)))), ((a 0), f_x a), ((a 10), f_wires a)]) hD hS hA [3, 0, 1] rfl
  refine va_calli (vx_runSW (As := [.ref (a 0), .int (xs 1), .int (((xs 2).toUInt32 % 65536).toInt32), .ref o1]) (rest := []) ⟨hx, hb, hml, hown, ht⟩ (k_L_got l hfl D g z0 _ a (xs 1) (((xs 2).toUInt32 % 65536).toInt32) o1 (isC_i2c _)) (vx_cwSW 4 ht (gS w_1171 w_1173 w_767 w_1172) rfl rfl rfl (by decide +kernel) (le2 rfl rfl)) ⟨PP.blind, PP.mk' hK hZ hz hAz hS hPc hDc⟩ rfl rfl hl.1 rfl (lv_room (Nat.le_of_ble_eq_true rfl)) dL_law_3775 (le2 rfl rfl)) hS (fun q _ h => hFc q h) hFc (fun r u t H locs ht1 hvm hw hB hz1 hk1 hS => ?_)
  obtain ⟨rfl, hw⟩ := hw
  obtain ⟨hP1, hD1⟩ := hB
  rw [ht1] at hP1
  obtain ⟨hP, hD⟩ := va_join (wr := [((a 200), f_m a g)]) (w1 := [(o1, .inl (g 1, 1, .inr (.inl (fun _ => 0))))]) hP hD [3, 0, 1] [2] rfl rfl (by decide) (by decide) hk1 hFc hP1 hD1
  have hP : va_P D vwCl [((a 200), f_m a g), (o1, .inl (g 1, 1, .inr (.inl (fun _ => 0))))] H := hP
  have hD : va_D (va_A [] s.heap.size) [((a 200), f_m a g), (o1, .inl (g 1, 1, .inr (.inl (fun _ => 0))))] := hD
  refine lv_istore (lv' := [(6, .int 1), (0, .ref b), (1, .ref (a 0)), (2, .ref (a 200)), (3, .ref o1), (4, .ref o2), (5, .int 0)]) hx hb dL_law_3778 hl (by decide) rfl (fun ls hl => ?_)
  refine lv_aload_n hx hb dL_law_3780 rfl (lv_at hl 3 rfl) ?_
  refine lv_aload_n hx hb dL_law_3781 rfl (lv_at hl 1 rfl) ?_
  refine lv_iload hx hb dL_law_3782 (lv_at hl 6 rfl) ?_
  refine lv_iconst (v := 1) hx hb dL_law_3784 (by decide) ?_
  refine lv_iadd hx hb dL_law_3785 ?_
  refine r_topi (v := 1) (by decide) ?_
  refine va_sld hx hb hX hbl hbA hS (by unfold vp_in; decide) dL_law_3786 ?_
  refine r_topi (v := xs 1) (congrArg xs (by decide)) ?_
  refine lv_aload_n hx hb dL_law_3787 rfl (lv_at hl 1 rfl) ?_
  refine lv_iload hx hb dL_law_3788 (lv_at hl 6 rfl) ?_
  refine lv_iconst (v := 2) hx hb dL_law_3790 (by decide) ?_
  refine lv_iadd hx hb dL_law_3791 ?_
  refine r_topi (v := 2) (by decide) ?_
  refine va_sld hx hb hX hbl hbA hS (by unfold vp_in; decide) dL_law_3792 ?_
  refine r_topi (v := xs 2) (congrArg xs (by decide)) ?_
  refine lv_i2c (v := ((xs 2).toUInt32 % 65536).toInt32) hx hb dL_law_3793 rfl ?_
  have hPc : va_P D vwCl [((a 200), f_m a g)] _ := hP.sub (ws' := [((a 200), f_m a g)]) [0] rfl
  have hDc : va_D (fun q => z0 ≤ q) [((a 200), f_m a g)] := (hD.to hAz).pick (ws' := [((a 200), f_m a g)]) [0] (by decide) rfl
  have hFc := va_free (wc := [((a 200), f_m a g)]) hD hS hA [0] rfl
  refine va_calli (va_runV (As := [.int (xs 1), .int (((xs 2).toUInt32 % 65536).toInt32)]) (rest := []) ⟨hx, hb, hml, hown, ht⟩ (k_X15_got l D g z0 _ a (xs 1) (((xs 2).toUInt32 % 65536).toInt32) (isC_i2c _)) (cwV 2 ht (gV w_1174 w_1176 w_1177 w_334 w_1175) rfl rfl rfl (by decide +kernel) (le2 rfl rfl)) ⟨PP.blind, va_recv hK.1 hP (ci := 21) (q0 := 0) rfl rfl, PP.mk' hK hZ hz hAz hS hPc hDc⟩ rfl rfl hl.1 rfl (lv_room (Nat.le_of_ble_eq_true rfl)) dL_law_3794 (le2 rfl rfl)) hS (fun q _ h => hFc q h) hFc (fun r u t H locs ht1 hvm hw hB hz1 hk1 hS => ?_)
  obtain ⟨rfl, hw⟩ := hw
  obtain ⟨hP1, hD1⟩ := hB
  rw [ht1] at hP1
  obtain ⟨hP, hD⟩ := va_join (wr := [(o1, .inl (g 1, 1, .inr (.inl (fun _ => 0))))]) (w1 := [((a 200), .inr (21, [.int 1, .ref (a 201), .ref (a 202), .ref (a 203), .ref (a 204), .ref (a 205), .ref (a 206), .int 0, .int 0, .int 0, .int 0, .ref (a 208), .ref (a 209), .ref (a 210), .ref (a 211), .ref (a 212), .int 4, .int 12, .int (-1), .int 0, .ref (g 200), .ref (a 213), .int 0, .int 97, .ref (a 214), .ref (a 215), .ref (a 207), .null, .int 0]))]) hP hD [0] [1] rfl rfl (by decide) (by decide) hk1 hFc hP1 hD1
  have hP : va_P D vwCl [(o1, .inl (g 1, 1, .inr (.inl (fun _ => 0)))), ((a 200), .inr (21, [.int 1, .ref (a 201), .ref (a 202), .ref (a 203), .ref (a 204), .ref (a 205), .ref (a 206), .int 0, .int 0, .int 0, .int 0, .ref (a 208), .ref (a 209), .ref (a 210), .ref (a 211), .ref (a 212), .int 4, .int 12, .int (-1), .int 0, .ref (g 200), .ref (a 213), .int 0, .int 97, .ref (a 214), .ref (a 215), .ref (a 207), .null, .int 0]))] H := hP
  have hD : va_D (va_A [] s.heap.size) [(o1, .inl (g 1, 1, .inr (.inl (fun _ => 0)))), ((a 200), .inr (21, [.int 1, .ref (a 201), .ref (a 202), .ref (a 203), .ref (a 204), .ref (a 205), .ref (a 206), .int 0, .int 0, .int 0, .int 0, .ref (a 208), .ref (a 209), .ref (a 210), .ref (a 211), .ref (a 212), .int 4, .int 12, .int (-1), .int 0, .ref (g 200), .ref (a 213), .int 0, .int 97, .ref (a 214), .ref (a 215), .ref (a 207), .null, .int 0]))] := hD
  refine lv_istore (lv' := [(7, .int 0), (6, .int 1), (0, .ref b), (1, .ref (a 0)), (2, .ref (a 200)), (3, .ref o1), (4, .ref o2), (5, .int 0)]) hx hb dL_law_3797 hl (by decide) rfl (fun ls hl => ?_)
  refine lv_aload_n hx hb dL_law_3799 rfl (lv_at hl 4 rfl) ?_
  have hPc : va_P D vwCl [((a 200), .inr (21, [.int 1, .ref (a 201), .ref (a 202), .ref (a 203), .ref (a 204), .ref (a 205), .ref (a 206), .int 0, .int 0, .int 0, .int 0, .ref (a 208), .ref (a 209), .ref (a 210), .ref (a 211), .ref (a 212), .int 4, .int 12, .int (-1), .int 0, .ref (g 200), .ref (a 213), .int 0, .int 97, .ref (a 214), .ref (a 215), .ref (a 207), .null, .int 0]))] _ := hP.sub (ws' := [((a 200), .inr (21, [.int 1, .ref (a 201), .ref (a 202), .ref (a 203), .ref (a 204), .ref (a 205), .ref (a 206), .int 0, .int 0, .int 0, .int 0, .ref (a 208), .ref (a 209), .ref (a 210), .ref (a 211), .ref (a 212), .int 4, .int 12, .int (-1), .int 0, .ref (g 200), .ref (a 213), .int 0, .int 97, .ref (a 214), .ref (a 215), .ref (a 207), .null, .int 0]))]) [1] rfl
  have hDc : va_D (fun q => z0 ≤ q) [((a 200), .inr (21, [.int 1, .ref (a 201), .ref (a 202), .ref (a 203), .ref (a 204), .ref (a 205), .ref (a 206), .int 0, .int 0, .int 0, .int 0, .ref (a 208), .ref (a 209), .ref (a 210), .ref (a 211), .ref (a 212), .int 4, .int 12, .int (-1), .int 0, .ref (g 200), .ref (a 213), .int 0, .int 97, .ref (a 214), .ref (a 215), .ref (a 207), .null, .int 0]))] := (hD.to hAz).pick (ws' := [((a 200), .inr (21, [.int 1, .ref (a 201), .ref (a 202), .ref (a 203), .ref (a 204), .ref (a 205), .ref (a 206), .int 0, .int 0, .int 0, .int 0, .ref (a 208), .ref (a 209), .ref (a 210), .ref (a 211), .ref (a 212), .int 4, .int 12, .int (-1), .int 0, .ref (g 200), .ref (a 213), .int 0, .int 97, .ref (a 214), .ref (a 215), .ref (a 207), .null, .int 0]))]) [1] (by decide) rfl
  have hFc := va_free (wc := [((a 200), .inr (21, [.int 1, .ref (a 201), .ref (a 202), .ref (a 203), .ref (a 204), .ref (a 205), .ref (a 206), .int 0, .int 0, .int 0, .int 0, .ref (a 208), .ref (a 209), .ref (a 210), .ref (a 211), .ref (a 212), .int 4, .int 12, .int (-1), .int 0, .ref (g 200), .ref (a 213), .int 0, .int 97, .ref (a 214), .ref (a 215), .ref (a 207), .null, .int 0]))]) hD hS hA [1] rfl
  refine va_calli (va_runV (As := []) (rest := []) ⟨hx, hb, hml, hown, ht⟩ (k_X15_thrown_v2 l D g z0 _ a) (cwV 0 ht (gV w_772 w_774 w_775 w_334 w_773) rfl rfl rfl (by decide +kernel) (le2 rfl rfl)) ⟨PP.blind, va_recv hK.1 hP (ci := 21) (q0 := 1) rfl rfl, PP.mk' hK hZ hz hAz hS hPc hDc⟩ rfl rfl hl.1 rfl (lv_room (Nat.le_of_ble_eq_true rfl)) dL_law_3800 (le2 rfl rfl)) hS (fun q _ h => hFc q h) hFc (fun r u t H locs ht1 hvm hw hB hz1 hk1 hS => ?_)
  obtain ⟨rfl, hw⟩ := hw
  obtain ⟨hP1, hD1⟩ := hB
  rw [ht1] at hP1
  obtain ⟨hP, hD⟩ := va_join (wr := [(o1, .inl (g 1, 1, .inr (.inl (fun _ => 0))))]) (w1 := [((a 200), .inr (21, [.int 1, .ref (a 201), .ref (a 202), .ref (a 203), .ref (a 204), .ref (a 205), .ref (a 206), .int 0, .int 0, .int 0, .int 0, .ref (a 208), .ref (a 209), .ref (a 210), .ref (a 211), .ref (a 212), .int 4, .int 12, .int (-1), .int 0, .ref (g 200), .ref (a 213), .int 0, .int 97, .ref (a 214), .ref (a 215), .ref (a 207), .null, .int 0]))]) hP hD [1] [0] rfl rfl (by decide) (by decide) hk1 hFc hP1 hD1
  have hP : va_P D vwCl [(o1, .inl (g 1, 1, .inr (.inl (fun _ => 0)))), ((a 200), .inr (21, [.int 1, .ref (a 201), .ref (a 202), .ref (a 203), .ref (a 204), .ref (a 205), .ref (a 206), .int 0, .int 0, .int 0, .int 0, .ref (a 208), .ref (a 209), .ref (a 210), .ref (a 211), .ref (a 212), .int 4, .int 12, .int (-1), .int 0, .ref (g 200), .ref (a 213), .int 0, .int 97, .ref (a 214), .ref (a 215), .ref (a 207), .null, .int 0]))] H := hP
  have hD : va_D (va_A [] s.heap.size) [(o1, .inl (g 1, 1, .inr (.inl (fun _ => 0)))), ((a 200), .inr (21, [.int 1, .ref (a 201), .ref (a 202), .ref (a 203), .ref (a 204), .ref (a 205), .ref (a 206), .int 0, .int 0, .int 0, .int 0, .ref (a 208), .ref (a 209), .ref (a 210), .ref (a 211), .ref (a 212), .int 4, .int 12, .int (-1), .int 0, .ref (g 200), .ref (a 213), .int 0, .int 97, .ref (a 214), .ref (a 215), .ref (a 207), .null, .int 0]))] := hD
  refine lv_iload hx hb dL_law_3803 (lv_at hl 1 rfl) ?_
  refine lv_icmp_eq (tgt := 3810) hx hb dL_law_3805 (by decide) (fun c_1 => ?_) (fun c_1 => ?_)
  · refine lv_iload hx hb dL_law_3810 (lv_at hl 1 rfl) ?_
    refine lv_if_ne (tgt := 3827) hx hb dL_law_3812 (by decide) (fun c_2 => ?_) (fun c_2 => ?_)
    · refine lv_goto (tgt := 4264) hx hb dL_law_3827 (by decide) ?_
      refine W.widen (k := 200 + 300) (n := 8000 + 2000) (Nat.le_of_ble_eq_true rfl) (Nat.le_of_ble_eq_true rfl) ?_
      exact kk _ _ _ hS (lv_sub hl [7, 2] rfl)
    · exact absurd c_2 (by decide)
  · exact absurd c_1 (by decide)
set_option maxHeartbeats 4000000 in
set_option maxRecDepth 100000 in
theorem lw_case_63 {p : Program} {l : Launch} {e : Env} {s : State} {m : MethodId} {below : List Frame} {meth : Method} {c : Code} {H : Heap} {locs : List Loc} {ls : Array Slot} {Q : State → Prop} {D : va_G} {g : Nat → ClassId} {z0 b : Nat} {xs : Nat → Int32} {a : Nat → Nat} {o1 o2 : Nat} (hfl : l.stackTraces = false) (hx : p.tables.exec = Jvm.exec) (hb : c.code = cL_law) (hml : c.maxLocals = 9) (hown : s.vm.findClass RL = some m.cls) (ht : ∀ w ∈ TG, w.before #[Value.ref b] s = true) (hX : va_X b 6 xs s s.heap) (hbl : b < s.heap.size) (hbA : ¬ va_A [] s.heap.size b) (hK : KK D g s) (hZ : ZZ g z0 s) (hz : z0 ≤ s.heap.size) (hAz : ∀ q, va_A [] s.heap.size q → z0 ≤ q) (hP : va_P D vwCl (lwW a g o1 o2) H) (hD : va_D (va_A [] s.heap.size) (lwW a g o1 o2)) (hS : va_S (va_A [] s.heap.size) s.heap H locs) (hl : lv_has ls 9 [(0, .ref b), (1, .ref (a 0)), (2, .ref (a 200)), (3, .ref o1), (4, .ref o2), (5, .int 0)])
    (kk : ∀ (H : Heap) (locs : List Loc) (ls : Array Slot), va_S (va_A [] s.heap.size) s.heap H locs → lv_has ls 9 [(5, .int 0), (0, .ref b)] → W p l e room_1 s m #[Value.ref b] below meth c H locs (200 + 300) (8000 + 2000) Q (F0 m 4264 ls [])) :
    W p l e room_1 s m #[Value.ref b] below meth c H locs 200 8000 Q (F0 m 3830 ls []) := by
  have hA : ∀ q : Nat, s.heap.size ≤ q → va_A [] s.heap.size q := Anw
  have hP := hP.sub (ws' := [((a 0), f_x a), ((a 10), f_wires a), ((a 200), f_m a g), (o1, .inl (g 1, 1, .inr (.inl (fun _ => 0))))]) [0, 21, 26, 61] rfl
  have hD := hD.sub (ws' := [((a 0), f_x a), ((a 10), f_wires a), ((a 200), f_m a g), (o1, .inl (g 1, 1, .inr (.inl (fun _ => 0))))]) [0, 21, 26, 61] (by decide) rfl
  refine lv_aload_n hx hb dL_law_3830 rfl (lv_at hl 1 rfl) ?_
  refine lv_aload_n hx hb dL_law_3831 rfl (lv_at hl 0 rfl) ?_
  refine lv_iload hx hb dL_law_3832 (lv_at hl 5 rfl) ?_
  refine lv_iconst (v := 1) hx hb dL_law_3834 (by decide) ?_
  refine lv_iadd hx hb dL_law_3835 ?_
  refine r_topi (v := 1) (by decide) ?_
  refine va_sld hx hb hX hbl hbA hS (by unfold vp_in; decide) dL_law_3836 ?_
  refine r_topi (v := xs 1) (congrArg xs (by decide)) ?_
  refine lv_i2c (v := ((xs 1).toUInt32 % 65536).toInt32) hx hb dL_law_3837 rfl ?_
  refine lv_aload_n hx hb dL_law_3838 rfl (lv_at hl 3 rfl) ?_
  have hPc : va_P D vwCl [(o1, .inl (g 1, 1, .inr (.inl (fun _ => 0)))), ((a 0), f_x a), ((a 10), f_wires a)] _ := hP.sub (ws' := [(o1, .inl (g 1, 1, .inr (.inl (fun _ => 0)))), ((a 0), f_x a), ((a 10), f_wires a)]) [3, 0, 1] rfl
  have hDc : va_D (fun q => z0 ≤ q) [(o1, .inl (g 1, 1, .inr (.inl (fun _ => 0)))), ((a 0), f_x a), ((a 10), f_wires a)] := (hD.to hAz).pick (ws' := [(o1, .inl (g 1, 1, .inr (.inl (fun _ => 0)))), ((a 0), f_x a), ((a 10), f_wires a)]) [3, 0, 1] (by decide) rfl
  have hFc := va_free (wc := [(o1, .inl (g 1, 1, .inr (.inl (fun _ => 0)))), ((a 0), f_x a), ((a 10), f_wires a)]) hD hS hA [3, 0, 1] rfl
  refine va_calli (vx_runSW (As := [.ref (a 0), .int (((xs 1).toUInt32 % 65536).toInt32), .ref o1]) (rest := []) ⟨hx, hb, hml, hown, ht⟩ (k_L_badWires l hfl D g z0 _ a (((xs 1).toUInt32 % 65536).toInt32) o1 (isC_i2c _)) (vx_cwSW 3 ht (gS w_1178 w_1180 w_767 w_1179) rfl rfl rfl (by decide +kernel) (le2 rfl rfl)) ⟨PP.blind, PP.mk' hK hZ hz hAz hS hPc hDc⟩ rfl rfl hl.1 rfl (lv_room (Nat.le_of_ble_eq_true rfl)) dL_law_3839 (le2 rfl rfl)) hS (fun q _ h => hFc q h) hFc (fun r u t H locs ht1 hvm hw hB hz1 hk1 hS => ?_)
  rcases hw with hw | hw
  · obtain ⟨rfl, hw⟩ := hw
    obtain ⟨c_1, c_2⟩ := hw
    obtain ⟨hP1, hD1⟩ := hB
    rw [ht1] at hP1
    obtain ⟨hP, hD⟩ := va_join (wr := [((a 200), f_m a g)]) (w1 := [(o1, .inl (g 1, 1, .inr (.inl (fun _ => 0))))]) hP hD [3, 0, 1] [2] rfl rfl (by decide) (by decide) hk1 hFc hP1 hD1
    have hP : va_P D vwCl [((a 200), f_m a g), (o1, .inl (g 1, 1, .inr (.inl (fun _ => 0))))] H := hP
    have hD : va_D (va_A [] s.heap.size) [((a 200), f_m a g), (o1, .inl (g 1, 1, .inr (.inl (fun _ => 0))))] := hD
    refine lv_istore (lv' := [(6, .int 1), (0, .ref b), (1, .ref (a 0)), (2, .ref (a 200)), (3, .ref o1), (4, .ref o2), (5, .int 0)]) hx hb dL_law_3842 hl (by decide) rfl (fun ls hl => ?_)
    refine lv_aload_n hx hb dL_law_3844 rfl (lv_at hl 3 rfl) ?_
    refine lv_aload_n hx hb dL_law_3845 rfl (lv_at hl 1 rfl) ?_
    refine lv_iload hx hb dL_law_3846 (lv_at hl 6 rfl) ?_
    refine lv_iconst (v := 1) hx hb dL_law_3848 (by decide) ?_
    refine lv_iadd hx hb dL_law_3849 ?_
    refine r_topi (v := 1) (by decide) ?_
    refine va_sld hx hb hX hbl hbA hS (by unfold vp_in; decide) dL_law_3850 ?_
    refine r_topi (v := xs 1) (congrArg xs (by decide)) ?_
    refine lv_i2c (v := ((xs 1).toUInt32 % 65536).toInt32) hx hb dL_law_3851 rfl ?_
    have hPc : va_P D vwCl [((a 200), f_m a g)] _ := hP.sub (ws' := [((a 200), f_m a g)]) [0] rfl
    have hDc : va_D (fun q => z0 ≤ q) [((a 200), f_m a g)] := (hD.to hAz).pick (ws' := [((a 200), f_m a g)]) [0] (by decide) rfl
    have hFc := va_free (wc := [((a 200), f_m a g)]) hD hS hA [0] rfl
    refine va_calli (va_runV (As := [.int (((xs 1).toUInt32 % 65536).toInt32)]) (rest := []) ⟨hx, hb, hml, hown, ht⟩ (k_X15_badWires l D g z0 _ a (((xs 1).toUInt32 % 65536).toInt32) (isC_i2c _)) (cwV 1 ht (gV w_1181 w_1183 w_1184 w_334 w_1182) rfl rfl rfl (by decide +kernel) (le2 rfl rfl)) ⟨PP.blind, va_recv hK.1 hP (ci := 21) (q0 := 0) rfl rfl, PP.mk' hK hZ hz hAz hS hPc hDc⟩ rfl rfl hl.1 rfl (lv_room (Nat.le_of_ble_eq_true rfl)) dL_law_3852 (le2 rfl rfl)) hS (fun q _ h => hFc q h) hFc (fun r u t H locs ht1 hvm hw hB hz1 hk1 hS => ?_)
    rcases hw with hw | hw
    · obtain ⟨rfl, rfl, hw⟩ := hw
      rcases hw with hw | hw
      · have c_3 := hw
        exact absurd c_3 c_1
      · obtain ⟨c_4, c_5⟩ := hw
        exact absurd c_5 c_2
    · obtain ⟨rfl, rfl, hw⟩ := hw
      obtain ⟨c_6, c_7⟩ := hw
      obtain ⟨hP1, hD1⟩ := hB
      rw [ht1] at hP1
      obtain ⟨hP, hD⟩ := va_join (wr := [(o1, .inl (g 1, 1, .inr (.inl (fun _ => 0))))]) (w1 := [((a 200), .inr (21, [.int 1, .ref (a 201), .ref (a 202), .ref (a 203), .ref (a 204), .ref (a 205), .ref (a 206), .int 0, .int 0, .int 0, .int 0, .ref (a 208), .ref (a 209), .ref (a 210), .ref (a 211), .ref (a 212), .int 4, .int 12, .int (-1), .int 0, .ref (g 200), .ref (a 213), .int 0, .int 97, .ref (a 214), .ref (a 215), .ref (a 207), .null, .int 0]))]) hP hD [0] [1] rfl rfl (by decide) (by decide) hk1 hFc hP1 hD1
      have hP : va_P D vwCl [(o1, .inl (g 1, 1, .inr (.inl (fun _ => 0)))), ((a 200), .inr (21, [.int 1, .ref (a 201), .ref (a 202), .ref (a 203), .ref (a 204), .ref (a 205), .ref (a 206), .int 0, .int 0, .int 0, .int 0, .ref (a 208), .ref (a 209), .ref (a 210), .ref (a 211), .ref (a 212), .int 4, .int 12, .int (-1), .int 0, .ref (g 200), .ref (a 213), .int 0, .int 97, .ref (a 214), .ref (a 215), .ref (a 207), .null, .int 0]))] H := hP
      have hD : va_D (va_A [] s.heap.size) [(o1, .inl (g 1, 1, .inr (.inl (fun _ => 0)))), ((a 200), .inr (21, [.int 1, .ref (a 201), .ref (a 202), .ref (a 203), .ref (a 204), .ref (a 205), .ref (a 206), .int 0, .int 0, .int 0, .int 0, .ref (a 208), .ref (a 209), .ref (a 210), .ref (a 211), .ref (a 212), .int 4, .int 12, .int (-1), .int 0, .ref (g 200), .ref (a 213), .int 0, .int 97, .ref (a 214), .ref (a 215), .ref (a 207), .null, .int 0]))] := hD
      refine lv_istore (lv' := [(7, .int 0), (6, .int 1), (0, .ref b), (1, .ref (a 0)), (2, .ref (a 200)), (3, .ref o1), (4, .ref o2), (5, .int 0)]) hx hb dL_law_3855 hl (by decide) rfl (fun ls hl => ?_)
      refine lv_aload_n hx hb dL_law_3857 rfl (lv_at hl 4 rfl) ?_
      have hPc : va_P D vwCl [((a 200), .inr (21, [.int 1, .ref (a 201), .ref (a 202), .ref (a 203), .ref (a 204), .ref (a 205), .ref (a 206), .int 0, .int 0, .int 0, .int 0, .ref (a 208), .ref (a 209), .ref (a 210), .ref (a 211), .ref (a 212), .int 4, .int 12, .int (-1), .int 0, .ref (g 200), .ref (a 213), .int 0, .int 97, .ref (a 214), .ref (a 215), .ref (a 207), .null, .int 0]))] _ := hP.sub (ws' := [((a 200), .inr (21, [.int 1, .ref (a 201), .ref (a 202), .ref (a 203), .ref (a 204), .ref (a 205), .ref (a 206), .int 0, .int 0, .int 0, .int 0, .ref (a 208), .ref (a 209), .ref (a 210), .ref (a 211), .ref (a 212), .int 4, .int 12, .int (-1), .int 0, .ref (g 200), .ref (a 213), .int 0, .int 97, .ref (a 214), .ref (a 215), .ref (a 207), .null, .int 0]))]) [1] rfl
      have hDc : va_D (fun q => z0 ≤ q) [((a 200), .inr (21, [.int 1, .ref (a 201), .ref (a 202), .ref (a 203), .ref (a 204), .ref (a 205), .ref (a 206), .int 0, .int 0, .int 0, .int 0, .ref (a 208), .ref (a 209), .ref (a 210), .ref (a 211), .ref (a 212), .int 4, .int 12, .int (-1), .int 0, .ref (g 200), .ref (a 213), .int 0, .int 97, .ref (a 214), .ref (a 215), .ref (a 207), .null, .int 0]))] := (hD.to hAz).pick (ws' := [((a 200), .inr (21, [.int 1, .ref (a 201), .ref (a 202), .ref (a 203), .ref (a 204), .ref (a 205), .ref (a 206), .int 0, .int 0, .int 0, .int 0, .ref (a 208), .ref (a 209), .ref (a 210), .ref (a 211), .ref (a 212), .int 4, .int 12, .int (-1), .int 0, .ref (g 200), .ref (a 213), .int 0, .int 97, .ref (a 214), .ref (a 215), .ref (a 207), .null, .int 0]))]) [1] (by decide) rfl
      have hFc := va_free (wc := [((a 200), .inr (21, [.int 1, .ref (a 201), .ref (a 202), .ref (a 203), .ref (a 204), .ref (a 205), .ref (a 206), .int 0, .int 0, .int 0, .int 0, .ref (a 208), .ref (a 209), .ref (a 210), .ref (a 211), .ref (a 212), .int 4, .int 12, .int (-1), .int 0, .ref (g 200), .ref (a 213), .int 0, .int 97, .ref (a 214), .ref (a 215), .ref (a 207), .null, .int 0]))]) hD hS hA [1] rfl
      refine va_calli (va_runV (As := []) (rest := []) ⟨hx, hb, hml, hown, ht⟩ (k_X15_thrown_v2 l D g z0 _ a) (cwV 0 ht (gV w_772 w_774 w_775 w_334 w_773) rfl rfl rfl (by decide +kernel) (le2 rfl rfl)) ⟨PP.blind, va_recv hK.1 hP (ci := 21) (q0 := 1) rfl rfl, PP.mk' hK hZ hz hAz hS hPc hDc⟩ rfl rfl hl.1 rfl (lv_room (Nat.le_of_ble_eq_true rfl)) dL_law_3858 (le2 rfl rfl)) hS (fun q _ h => hFc q h) hFc (fun r u t H locs ht1 hvm hw hB hz1 hk1 hS => ?_)
      obtain ⟨rfl, hw⟩ := hw
      obtain ⟨hP1, hD1⟩ := hB
      rw [ht1] at hP1
      obtain ⟨hP, hD⟩ := va_join (wr := [(o1, .inl (g 1, 1, .inr (.inl (fun _ => 0))))]) (w1 := [((a 200), .inr (21, [.int 1, .ref (a 201), .ref (a 202), .ref (a 203), .ref (a 204), .ref (a 205), .ref (a 206), .int 0, .int 0, .int 0, .int 0, .ref (a 208), .ref (a 209), .ref (a 210), .ref (a 211), .ref (a 212), .int 4, .int 12, .int (-1), .int 0, .ref (g 200), .ref (a 213), .int 0, .int 97, .ref (a 214), .ref (a 215), .ref (a 207), .null, .int 0]))]) hP hD [1] [0] rfl rfl (by decide) (by decide) hk1 hFc hP1 hD1
      have hP : va_P D vwCl [(o1, .inl (g 1, 1, .inr (.inl (fun _ => 0)))), ((a 200), .inr (21, [.int 1, .ref (a 201), .ref (a 202), .ref (a 203), .ref (a 204), .ref (a 205), .ref (a 206), .int 0, .int 0, .int 0, .int 0, .ref (a 208), .ref (a 209), .ref (a 210), .ref (a 211), .ref (a 212), .int 4, .int 12, .int (-1), .int 0, .ref (g 200), .ref (a 213), .int 0, .int 97, .ref (a 214), .ref (a 215), .ref (a 207), .null, .int 0]))] H := hP
      have hD : va_D (va_A [] s.heap.size) [(o1, .inl (g 1, 1, .inr (.inl (fun _ => 0)))), ((a 200), .inr (21, [.int 1, .ref (a 201), .ref (a 202), .ref (a 203), .ref (a 204), .ref (a 205), .ref (a 206), .int 0, .int 0, .int 0, .int 0, .ref (a 208), .ref (a 209), .ref (a 210), .ref (a 211), .ref (a 212), .int 4, .int 12, .int (-1), .int 0, .ref (g 200), .ref (a 213), .int 0, .int 97, .ref (a 214), .ref (a 215), .ref (a 207), .null, .int 0]))] := hD
      refine lv_iload hx hb dL_law_3861 (lv_at hl 1 rfl) ?_
      refine lv_icmp_eq (tgt := 3868) hx hb dL_law_3863 (by decide) (fun c_8 => ?_) (fun c_8 => ?_)
      · refine lv_iload hx hb dL_law_3868 (lv_at hl 1 rfl) ?_
        refine lv_if_ne (tgt := 3885) hx hb dL_law_3870 (by decide) (fun c_9 => ?_) (fun c_9 => ?_)
        · refine lv_goto (tgt := 4264) hx hb dL_law_3885 (by decide) ?_
          refine W.widen (k := 200 + 300) (n := 8000 + 2000) (Nat.le_of_ble_eq_true rfl) (Nat.le_of_ble_eq_true rfl) ?_
          exact kk _ _ _ hS (lv_sub hl [7, 2] rfl)
        · exact absurd c_9 (by decide)
      · exact absurd c_8 (by decide)
  · obtain ⟨rfl, hw⟩ := hw
    rcases hw with hw | hw
    · have c_10 := hw
      obtain ⟨hP1, hD1⟩ := hB
      rw [ht1] at hP1
      obtain ⟨hP, hD⟩ := va_join (wr := [((a 200), f_m a g)]) (w1 := [(o1, .inl (g 1, 1, .inr (.inl (fun _ => 0))))]) hP hD [3, 0, 1] [2] rfl rfl (by decide) (by decide) hk1 hFc hP1 hD1
      have hP : va_P D vwCl [((a 200), f_m a g), (o1, .inl (g 1, 1, .inr (.inl (fun _ => 0))))] H := hP
      have hD : va_D (va_A [] s.heap.size) [((a 200), f_m a g), (o1, .inl (g 1, 1, .inr (.inl (fun _ => 0))))] := hD
      refine lv_istore (lv' := [(6, .int 0), (0, .ref b), (1, .ref (a 0)), (2, .ref (a 200)), (3, .ref o1), (4, .ref o2), (5, .int 0)]) hx hb dL_law_3842 hl (by decide) rfl (fun ls hl => ?_)
      refine lv_aload_n hx hb dL_law_3844 rfl (lv_at hl 3 rfl) ?_
      refine lv_aload_n hx hb dL_law_3845 rfl (lv_at hl 1 rfl) ?_
      refine lv_iload hx hb dL_law_3846 (lv_at hl 6 rfl) ?_
      refine lv_iconst (v := 1) hx hb dL_law_3848 (by decide) ?_
      refine lv_iadd hx hb dL_law_3849 ?_
      refine r_topi (v := 1) (by decide) ?_
      refine va_sld hx hb hX hbl hbA hS (by unfold vp_in; decide) dL_law_3850 ?_
      refine r_topi (v := xs 1) (congrArg xs (by decide)) ?_
      refine lv_i2c (v := ((xs 1).toUInt32 % 65536).toInt32) hx hb dL_law_3851 rfl ?_
      have hPc : va_P D vwCl [((a 200), f_m a g)] _ := hP.sub (ws' := [((a 200), f_m a g)]) [0] rfl
      have hDc : va_D (fun q => z0 ≤ q) [((a 200), f_m a g)] := (hD.to hAz).pick (ws' := [((a 200), f_m a g)]) [0] (by decide) rfl
      have hFc := va_free (wc := [((a 200), f_m a g)]) hD hS hA [0] rfl
      refine va_calli (va_runV (As := [.int (((xs 1).toUInt32 % 65536).toInt32)]) (rest := []) ⟨hx, hb, hml, hown, ht⟩ (k_X15_badWires l D g z0 _ a (((xs 1).toUInt32 % 65536).toInt32) (isC_i2c _)) (cwV 1 ht (gV w_1181 w_1183 w_1184 w_334 w_1182) rfl rfl rfl (by decide +kernel) (le2 rfl rfl)) ⟨PP.blind, va_recv hK.1 hP (ci := 21) (q0 := 0) rfl rfl, PP.mk' hK hZ hz hAz hS hPc hDc⟩ rfl rfl hl.1 rfl (lv_room (Nat.le_of_ble_eq_true rfl)) dL_law_3852 (le2 rfl rfl)) hS (fun q _ h => hFc q h) hFc (fun r u t H locs ht1 hvm hw hB hz1 hk1 hS => ?_)
      rcases hw with hw | hw
      · obtain ⟨rfl, rfl, hw⟩ := hw
        rcases hw with hw | hw
        · have c_11 := hw
          obtain ⟨hP1, hD1⟩ := hB
          rw [ht1] at hP1
          obtain ⟨hP, hD⟩ := va_join (wr := [(o1, .inl (g 1, 1, .inr (.inl (fun _ => 0))))]) (w1 := [((a 200), f_m a g)]) hP hD [0] [1] rfl rfl (by decide) (by decide) hk1 hFc hP1 hD1
          have hP : va_P D vwCl [(o1, .inl (g 1, 1, .inr (.inl (fun _ => 0)))), ((a 200), f_m a g)] H := hP
          have hD : va_D (va_A [] s.heap.size) [(o1, .inl (g 1, 1, .inr (.inl (fun _ => 0)))), ((a 200), f_m a g)] := hD
          refine lv_istore (lv' := [(7, .int 0), (6, .int 0), (0, .ref b), (1, .ref (a 0)), (2, .ref (a 200)), (3, .ref o1), (4, .ref o2), (5, .int 0)]) hx hb dL_law_3855 hl (by decide) rfl (fun ls hl => ?_)
          refine lv_aload_n hx hb dL_law_3857 rfl (lv_at hl 4 rfl) ?_
          have hPc : va_P D vwCl [((a 200), f_m a g)] _ := hP.sub (ws' := [((a 200), f_m a g)]) [1] rfl
          have hDc : va_D (fun q => z0 ≤ q) [((a 200), f_m a g)] := (hD.to hAz).pick (ws' := [((a 200), f_m a g)]) [1] (by decide) rfl
          have hFc := va_free (wc := [((a 200), f_m a g)]) hD hS hA [1] rfl
          refine va_calli (va_runV (As := []) (rest := []) ⟨hx, hb, hml, hown, ht⟩ (k_X15_thrown l D g z0 _ a) (cwV 0 ht (gV w_772 w_774 w_775 w_334 w_773) rfl rfl rfl (by decide +kernel) (le2 rfl rfl)) ⟨PP.blind, va_recv hK.1 hP (ci := 21) (q0 := 1) rfl rfl, PP.mk' hK hZ hz hAz hS hPc hDc⟩ rfl rfl hl.1 rfl (lv_room (Nat.le_of_ble_eq_true rfl)) dL_law_3858 (le2 rfl rfl)) hS (fun q _ h => hFc q h) hFc (fun r u t H locs ht1 hvm hw hB hz1 hk1 hS => ?_)
          obtain ⟨rfl, hw⟩ := hw
          obtain ⟨hP1, hD1⟩ := hB
          rw [ht1] at hP1
          obtain ⟨hP, hD⟩ := va_join (wr := [(o1, .inl (g 1, 1, .inr (.inl (fun _ => 0))))]) (w1 := [((a 200), f_m a g)]) hP hD [1] [0] rfl rfl (by decide) (by decide) hk1 hFc hP1 hD1
          have hP : va_P D vwCl [(o1, .inl (g 1, 1, .inr (.inl (fun _ => 0)))), ((a 200), f_m a g)] H := hP
          have hD : va_D (va_A [] s.heap.size) [(o1, .inl (g 1, 1, .inr (.inl (fun _ => 0)))), ((a 200), f_m a g)] := hD
          refine lv_iload hx hb dL_law_3861 (lv_at hl 1 rfl) ?_
          refine lv_icmp_eq (tgt := 3868) hx hb dL_law_3863 (by decide) (fun c_12 => ?_) (fun c_12 => ?_)
          · refine lv_iload hx hb dL_law_3868 (lv_at hl 1 rfl) ?_
            refine lv_if_ne (tgt := 3885) hx hb dL_law_3870 (by decide) (fun c_13 => ?_) (fun c_13 => ?_)
            · exact absurd c_13 (by decide)
            · refine lv_aload_n hx hb dL_law_3873 rfl (lv_at hl 5 rfl) ?_
              refine lv_iconst (v := 0) hx hb dL_law_3874 (by decide) ?_
              refine va_lald hx hb hK.1 hP 0 1 rfl rfl (by unfold vp_in; decide) dL_law_3875 ?_
              refine r_topl (v := 0) (by decide) ?_
              refine lv_iload hx hb dL_law_3876 (lv_at hl 0 rfl) ?_
              refine lv_i2l (v := 0) hx hb dL_law_3878 (by decide) ?_
              refine W.lcmp hx hb dL_law_3879 ?_
              refine r_topi (v := 0) (by decide) ?_
              refine lv_if_eq (tgt := 3885) hx hb dL_law_3880 (by decide) (fun c_14 => ?_) (fun c_14 => ?_)
              · refine lv_goto (tgt := 4264) hx hb dL_law_3885 (by decide) ?_
                refine W.widen (k := 200 + 300) (n := 8000 + 2000) (Nat.le_of_ble_eq_true rfl) (Nat.le_of_ble_eq_true rfl) ?_
                exact kk _ _ _ hS (lv_sub hl [7, 2] rfl)
              · exact absurd c_14 (by decide)
          · exact absurd c_12 (by decide)
        · obtain ⟨c_15, c_16⟩ := hw
          exact absurd c_10 c_15
      · obtain ⟨rfl, rfl, hw⟩ := hw
        obtain ⟨c_17, c_18⟩ := hw
        exact absurd c_10 c_17
    · obtain ⟨c_19, c_20⟩ := hw
      obtain ⟨hP1, hD1⟩ := hB
      rw [ht1] at hP1
      obtain ⟨hP, hD⟩ := va_join (wr := [((a 200), f_m a g)]) (w1 := [(o1, .inl (g 1, 1, .inr (.inl (fun _ => 0))))]) hP hD [3, 0, 1] [2] rfl rfl (by decide) (by decide) hk1 hFc hP1 hD1
      have hP : va_P D vwCl [((a 200), f_m a g), (o1, .inl (g 1, 1, .inr (.inl (fun _ => 0))))] H := hP
      have hD : va_D (va_A [] s.heap.size) [((a 200), f_m a g), (o1, .inl (g 1, 1, .inr (.inl (fun _ => 0))))] := hD
      refine lv_istore (lv' := [(6, .int 0), (0, .ref b), (1, .ref (a 0)), (2, .ref (a 200)), (3, .ref o1), (4, .ref o2), (5, .int 0)]) hx hb dL_law_3842 hl (by decide) rfl (fun ls hl => ?_)
      refine lv_aload_n hx hb dL_law_3844 rfl (lv_at hl 3 rfl) ?_
      refine lv_aload_n hx hb dL_law_3845 rfl (lv_at hl 1 rfl) ?_
      refine lv_iload hx hb dL_law_3846 (lv_at hl 6 rfl) ?_
      refine lv_iconst (v := 1) hx hb dL_law_3848 (by decide) ?_
      refine lv_iadd hx hb dL_law_3849 ?_
      refine r_topi (v := 1) (by decide) ?_
      refine va_sld hx hb hX hbl hbA hS (by unfold vp_in; decide) dL_law_3850 ?_
      refine r_topi (v := xs 1) (congrArg xs (by decide)) ?_
      refine lv_i2c (v := ((xs 1).toUInt32 % 65536).toInt32) hx hb dL_law_3851 rfl ?_
      have hPc : va_P D vwCl [((a 200), f_m a g)] _ := hP.sub (ws' := [((a 200), f_m a g)]) [0] rfl
      have hDc : va_D (fun q => z0 ≤ q) [((a 200), f_m a g)] := (hD.to hAz).pick (ws' := [((a 200), f_m a g)]) [0] (by decide) rfl
      have hFc := va_free (wc := [((a 200), f_m a g)]) hD hS hA [0] rfl
      refine va_calli (va_runV (As := [.int (((xs 1).toUInt32 % 65536).toInt32)]) (rest := []) ⟨hx, hb, hml, hown, ht⟩ (k_X15_badWires l D g z0 _ a (((xs 1).toUInt32 % 65536).toInt32) (isC_i2c _)) (cwV 1 ht (gV w_1181 w_1183 w_1184 w_334 w_1182) rfl rfl rfl (by decide +kernel) (le2 rfl rfl)) ⟨PP.blind, va_recv hK.1 hP (ci := 21) (q0 := 0) rfl rfl, PP.mk' hK hZ hz hAz hS hPc hDc⟩ rfl rfl hl.1 rfl (lv_room (Nat.le_of_ble_eq_true rfl)) dL_law_3852 (le2 rfl rfl)) hS (fun q _ h => hFc q h) hFc (fun r u t H locs ht1 hvm hw hB hz1 hk1 hS => ?_)
      rcases hw with hw | hw
      · obtain ⟨rfl, rfl, hw⟩ := hw
        rcases hw with hw | hw
        · have c_21 := hw
          exact absurd c_21 c_19
        · obtain ⟨c_22, c_23⟩ := hw
          obtain ⟨hP1, hD1⟩ := hB
          rw [ht1] at hP1
          obtain ⟨hP, hD⟩ := va_join (wr := [(o1, .inl (g 1, 1, .inr (.inl (fun _ => 0))))]) (w1 := [((a 200), f_m a g)]) hP hD [0] [1] rfl rfl (by decide) (by decide) hk1 hFc hP1 hD1
          have hP : va_P D vwCl [(o1, .inl (g 1, 1, .inr (.inl (fun _ => 0)))), ((a 200), f_m a g)] H := hP
          have hD : va_D (va_A [] s.heap.size) [(o1, .inl (g 1, 1, .inr (.inl (fun _ => 0)))), ((a 200), f_m a g)] := hD
          refine lv_istore (lv' := [(7, .int 0), (6, .int 0), (0, .ref b), (1, .ref (a 0)), (2, .ref (a 200)), (3, .ref o1), (4, .ref o2), (5, .int 0)]) hx hb dL_law_3855 hl (by decide) rfl (fun ls hl => ?_)
          refine lv_aload_n hx hb dL_law_3857 rfl (lv_at hl 4 rfl) ?_
          have hPc : va_P D vwCl [((a 200), f_m a g)] _ := hP.sub (ws' := [((a 200), f_m a g)]) [1] rfl
          have hDc : va_D (fun q => z0 ≤ q) [((a 200), f_m a g)] := (hD.to hAz).pick (ws' := [((a 200), f_m a g)]) [1] (by decide) rfl
          have hFc := va_free (wc := [((a 200), f_m a g)]) hD hS hA [1] rfl
          refine va_calli (va_runV (As := []) (rest := []) ⟨hx, hb, hml, hown, ht⟩ (k_X15_thrown l D g z0 _ a) (cwV 0 ht (gV w_772 w_774 w_775 w_334 w_773) rfl rfl rfl (by decide +kernel) (le2 rfl rfl)) ⟨PP.blind, va_recv hK.1 hP (ci := 21) (q0 := 1) rfl rfl, PP.mk' hK hZ hz hAz hS hPc hDc⟩ rfl rfl hl.1 rfl (lv_room (Nat.le_of_ble_eq_true rfl)) dL_law_3858 (le2 rfl rfl)) hS (fun q _ h => hFc q h) hFc (fun r u t H locs ht1 hvm hw hB hz1 hk1 hS => ?_)
          obtain ⟨rfl, hw⟩ := hw
          obtain ⟨hP1, hD1⟩ := hB
          rw [ht1] at hP1
          obtain ⟨hP, hD⟩ := va_join (wr := [(o1, .inl (g 1, 1, .inr (.inl (fun _ => 0))))]) (w1 := [((a 200), f_m a g)]) hP hD [1] [0] rfl rfl (by decide) (by decide) hk1 hFc hP1 hD1
          have hP : va_P D vwCl [(o1, .inl (g 1, 1, .inr (.inl (fun _ => 0)))), ((a 200), f_m a g)] H := hP
          have hD : va_D (va_A [] s.heap.size) [(o1, .inl (g 1, 1, .inr (.inl (fun _ => 0)))), ((a 200), f_m a g)] := hD
          refine lv_iload hx hb dL_law_3861 (lv_at hl 1 rfl) ?_
          refine lv_icmp_eq (tgt := 3868) hx hb dL_law_3863 (by decide) (fun c_24 => ?_) (fun c_24 => ?_)
          · refine lv_iload hx hb dL_law_3868 (lv_at hl 1 rfl) ?_
            refine lv_if_ne (tgt := 3885) hx hb dL_law_3870 (by decide) (fun c_25 => ?_) (fun c_25 => ?_)
            · exact absurd c_25 (by decide)
            · refine lv_aload_n hx hb dL_law_3873 rfl (lv_at hl 5 rfl) ?_
              refine lv_iconst (v := 0) hx hb dL_law_3874 (by decide) ?_
              refine va_lald hx hb hK.1 hP 0 1 rfl rfl (by unfold vp_in; decide) dL_law_3875 ?_
              refine r_topl (v := 0) (by decide) ?_
              refine lv_iload hx hb dL_law_3876 (lv_at hl 0 rfl) ?_
              refine lv_i2l (v := 0) hx hb dL_law_3878 (by decide) ?_
              refine W.lcmp hx hb dL_law_3879 ?_
              refine r_topi (v := 0) (by decide) ?_
              refine lv_if_eq (tgt := 3885) hx hb dL_law_3880 (by decide) (fun c_26 => ?_) (fun c_26 => ?_)
              · refine lv_goto (tgt := 4264) hx hb dL_law_3885 (by decide) ?_
                refine W.widen (k := 200 + 300) (n := 8000 + 2000) (Nat.le_of_ble_eq_true rfl) (Nat.le_of_ble_eq_true rfl) ?_
                exact kk _ _ _ hS (lv_sub hl [7, 2] rfl)
              · exact absurd c_26 (by decide)
          · exact absurd c_24 (by decide)
      · obtain ⟨rfl, rfl, hw⟩ := hw
        obtain ⟨c_27, c_28⟩ := hw
        exact absurd c_20 c_28
set_option maxHeartbeats 4000000 in
set_option maxRecDepth 100000 in
theorem lw_case_64 {p : Program} {l : Launch} {e : Env} {s : State} {m : MethodId} {below : List Frame} {meth : Method} {c : Code} {H : Heap} {locs : List Loc} {ls : Array Slot} {Q : State → Prop} {D : va_G} {g : Nat → ClassId} {z0 b : Nat} {xs : Nat → Int32} {a : Nat → Nat} {o1 o2 : Nat} (hfl : l.stackTraces = false) (hx : p.tables.exec = Jvm.exec) (hb : c.code = cL_law) (hml : c.maxLocals = 9) (hown : s.vm.findClass RL = some m.cls) (ht : ∀ w ∈ TG, w.before #[Value.ref b] s = true) (hX : va_X b 6 xs s s.heap) (hbl : b < s.heap.size) (hbA : ¬ va_A [] s.heap.size b) (hK : KK D g s) (hZ : ZZ g z0 s) (hz : z0 ≤ s.heap.size) (hAz : ∀ q, va_A [] s.heap.size q → z0 ≤ q) (hP : va_P D vwCl (lwW a g o1 o2) H) (hD : va_D (va_A [] s.heap.size) (lwW a g o1 o2)) (hS : va_S (va_A [] s.heap.size) s.heap H locs) (hl : lv_has ls 9 [(0, .ref b), (1, .ref (a 0)), (2, .ref (a 200)), (3, .ref o1), (4, .ref o2), (5, .int 0)])
    (kk : ∀ (H : Heap) (locs : List Loc) (ls : Array Slot), va_S (va_A [] s.heap.size) s.heap H locs → lv_has ls 9 [(5, .int 0), (0, .ref b)] → W p l e room_1 s m #[Value.ref b] below meth c H locs (200 + 300) (8000 + 2000) Q (F0 m 4264 ls [])) :
    W p l e room_1 s m #[Value.ref b] below meth c H locs 200 8000 Q (F0 m 3888 ls []) := by
  have hA : ∀ q : Nat, s.heap.size ≤ q → va_A [] s.heap.size q := Anw
  have hP := hP.sub (ws' := [((a 0), f_x a), ((a 10), f_wires a), ((a 200), f_m a g), (o1, .inl (g 1, 1, .inr (.inl (fun _ => 0))))]) [0, 21, 26, 61] rfl
  have hD := hD.sub (ws' := [((a 0), f_x a), ((a 10), f_wires a), ((a 200), f_m a g), (o1, .inl (g 1, 1, .inr (.inl (fun _ => 0))))]) [0, 21, 26, 61] (by decide) rfl
  refine lv_aload_n hx hb dL_law_3888 rfl (lv_at hl 1 rfl) ?_
  refine lv_aload_n hx hb dL_law_3889 rfl (lv_at hl 0 rfl) ?_
  refine lv_iload hx hb dL_law_3890 (lv_at hl 5 rfl) ?_
  refine lv_iconst (v := 1) hx hb dL_law_3892 (by decide) ?_
  refine lv_iadd hx hb dL_law_3893 ?_
  refine r_topi (v := 1) (by decide) ?_
  refine va_sld hx hb hX hbl hbA hS (by unfold vp_in; decide) dL_law_3894 ?_
  refine r_topi (v := xs 1) (congrArg xs (by decide)) ?_
  refine lv_aload_n hx hb dL_law_3895 rfl (lv_at hl 0 rfl) ?_
  refine lv_iload hx hb dL_law_3896 (lv_at hl 5 rfl) ?_
  refine lv_iconst (v := 2) hx hb dL_law_3898 (by decide) ?_
  refine lv_iadd hx hb dL_law_3899 ?_
  refine r_topi (v := 2) (by decide) ?_
  refine va_sld hx hb hX hbl hbA hS (by unfold vp_in; decide) dL_law_3900 ?_
  refine r_topi (v := xs 2) (congrArg xs (by decide)) ?_
  refine lv_i2c (v := ((xs 2).toUInt32 % 65536).toInt32) hx hb dL_law_3901 rfl ?_
  refine lv_aload_n hx hb dL_law_3902 rfl (lv_at hl 3 rfl) ?_
  have hPc : va_P D vwCl [(o1, .inl (g 1, 1, .inr (.inl (fun _ => 0)))), ((a 0), f_x a), ((a 10), f_wires a)] _ := hP.sub (ws' := [(o1, .inl (g 1, 1, .inr (.inl (fun _ => 0)))), ((a 0), f_x a), ((a 10), f_wires a)]) [3, 0, 1] rfl
  have hDc : va_D (fun q => z0 ≤ q) [(o1, .inl (g 1, 1, .inr (.inl (fun _ => 0)))), ((a 0), f_x a), ((a 10), f_wires a)] := (hD.to hAz).pick (ws' := [(o1, .inl (g 1, 1, .inr (.inl (fun _ => 0)))), ((a 0), f_x a), ((a 10), f_wires a)]) [3, 0, 1] (by decide) rfl
  have hFc := va_free (wc := [(o1, .inl (g 1, 1, .inr (.inl (fun _ => 0)))), ((a 0), f_x a), ((a 10), f_wires a)]) hD hS hA [3, 0, 1] rfl
  refine va_calli (vx_runSW (As := [.ref (a 0), .int (xs 1), .int (((xs 2).toUInt32 % 65536).toInt32), .ref o1]) (rest := []) ⟨hx, hb, hml, hown, ht⟩ (k_L_sameAs l hfl D g z0 _ a (xs 1) (((xs 2).toUInt32 % 65536).toInt32) o1 (isC_i2c _)) (vx_cwSW 4 ht (gS w_1185 w_1187 w_767 w_1186) rfl rfl rfl (by decide +kernel) (le2 rfl rfl)) ⟨PP.blind, PP.mk' hK hZ hz hAz hS hPc hDc⟩ rfl rfl hl.1 rfl (lv_room (Nat.le_of_ble_eq_true rfl)) dL_law_3903 (le2 rfl rfl)) hS (fun q _ h => hFc q h) hFc (fun r u t H locs ht1 hvm hw hB hz1 hk1 hS => ?_)
  obtain ⟨rfl, hw⟩ := hw
  obtain ⟨hP1, hD1⟩ := hB
  rw [ht1] at hP1
  obtain ⟨hP, hD⟩ := va_join (wr := [((a 200), f_m a g)]) (w1 := [(o1, .inl (g 1, 1, .inr (.inl (fun _ => 0))))]) hP hD [3, 0, 1] [2] rfl rfl (by decide) (by decide) hk1 hFc hP1 hD1
  have hP : va_P D vwCl [((a 200), f_m a g), (o1, .inl (g 1, 1, .inr (.inl (fun _ => 0))))] H := hP
  have hD : va_D (va_A [] s.heap.size) [((a 200), f_m a g), (o1, .inl (g 1, 1, .inr (.inl (fun _ => 0))))] := hD
  refine lv_istore (lv' := [(6, .int 1), (0, .ref b), (1, .ref (a 0)), (2, .ref (a 200)), (3, .ref o1), (4, .ref o2), (5, .int 0)]) hx hb dL_law_3906 hl (by decide) rfl (fun ls hl => ?_)
  refine lv_aload_n hx hb dL_law_3908 rfl (lv_at hl 3 rfl) ?_
  refine lv_aload_n hx hb dL_law_3909 rfl (lv_at hl 1 rfl) ?_
  refine lv_iload hx hb dL_law_3910 (lv_at hl 6 rfl) ?_
  refine lv_iconst (v := 1) hx hb dL_law_3912 (by decide) ?_
  refine lv_iadd hx hb dL_law_3913 ?_
  refine r_topi (v := 1) (by decide) ?_
  refine va_sld hx hb hX hbl hbA hS (by unfold vp_in; decide) dL_law_3914 ?_
  refine r_topi (v := xs 1) (congrArg xs (by decide)) ?_
  refine lv_aload_n hx hb dL_law_3915 rfl (lv_at hl 1 rfl) ?_
  refine lv_iload hx hb dL_law_3916 (lv_at hl 6 rfl) ?_
  refine lv_iconst (v := 2) hx hb dL_law_3918 (by decide) ?_
  refine lv_iadd hx hb dL_law_3919 ?_
  refine r_topi (v := 2) (by decide) ?_
  refine va_sld hx hb hX hbl hbA hS (by unfold vp_in; decide) dL_law_3920 ?_
  refine r_topi (v := xs 2) (congrArg xs (by decide)) ?_
  refine lv_i2c (v := ((xs 2).toUInt32 % 65536).toInt32) hx hb dL_law_3921 rfl ?_
  have hPc : va_P D vwCl [((a 200), f_m a g)] _ := hP.sub (ws' := [((a 200), f_m a g)]) [0] rfl
  have hDc : va_D (fun q => z0 ≤ q) [((a 200), f_m a g)] := (hD.to hAz).pick (ws' := [((a 200), f_m a g)]) [0] (by decide) rfl
  have hFc := va_free (wc := [((a 200), f_m a g)]) hD hS hA [0] rfl
  refine va_calli (va_runV (As := [.int (xs 1), .int (((xs 2).toUInt32 % 65536).toInt32)]) (rest := []) ⟨hx, hb, hml, hown, ht⟩ (k_X15_sameAs l D g z0 _ a (xs 1) (((xs 2).toUInt32 % 65536).toInt32) (isC_i2c _)) (cwV 2 ht (gV w_1188 w_1190 w_1191 w_334 w_1189) rfl rfl rfl (by decide +kernel) (le2 rfl rfl)) ⟨PP.blind, va_recv hK.1 hP (ci := 21) (q0 := 0) rfl rfl, PP.mk' hK hZ hz hAz hS hPc hDc⟩ rfl rfl hl.1 rfl (lv_room (Nat.le_of_ble_eq_true rfl)) dL_law_3922 (le2 rfl rfl)) hS (fun q _ h => hFc q h) hFc (fun r u t H locs ht1 hvm hw hB hz1 hk1 hS => ?_)
  obtain ⟨rfl, hw⟩ := hw
  obtain ⟨hP1, hD1⟩ := hB
  rw [ht1] at hP1
  obtain ⟨hP, hD⟩ := va_join (wr := [(o1, .inl (g 1, 1, .inr (.inl (fun _ => 0))))]) (w1 := [((a 200), .inr (21, [.int 1, .ref (a 201), .ref (a 202), .ref (a 203), .ref (a 204), .ref (a 205), .ref (a 206), .int 0, .int 0, .int 0, .int 0, .ref (a 208), .ref (a 209), .ref (a 210), .ref (a 211), .ref (a 212), .int 4, .int 12, .int (-1), .int 0, .ref (g 200), .ref (a 213), .int 0, .int 97, .ref (a 214), .ref (a 215), .ref (a 207), .null, .int 0]))]) hP hD [0] [1] rfl rfl (by decide) (by decide) hk1 hFc hP1 hD1
  have hP : va_P D vwCl [(o1, .inl (g 1, 1, .inr (.inl (fun _ => 0)))), ((a 200), .inr (21, [.int 1, .ref (a 201), .ref (a 202), .ref (a 203), .ref (a 204), .ref (a 205), .ref (a 206), .int 0, .int 0, .int 0, .int 0, .ref (a 208), .ref (a 209), .ref (a 210), .ref (a 211), .ref (a 212), .int 4, .int 12, .int (-1), .int 0, .ref (g 200), .ref (a 213), .int 0, .int 97, .ref (a 214), .ref (a 215), .ref (a 207), .null, .int 0]))] H := hP
  have hD : va_D (va_A [] s.heap.size) [(o1, .inl (g 1, 1, .inr (.inl (fun _ => 0)))), ((a 200), .inr (21, [.int 1, .ref (a 201), .ref (a 202), .ref (a 203), .ref (a 204), .ref (a 205), .ref (a 206), .int 0, .int 0, .int 0, .int 0, .ref (a 208), .ref (a 209), .ref (a 210), .ref (a 211), .ref (a 212), .int 4, .int 12, .int (-1), .int 0, .ref (g 200), .ref (a 213), .int 0, .int 97, .ref (a 214), .ref (a 215), .ref (a 207), .null, .int 0]))] := hD
  refine lv_istore (lv' := [(7, .int 0), (6, .int 1), (0, .ref b), (1, .ref (a 0)), (2, .ref (a 200)), (3, .ref o1), (4, .ref o2), (5, .int 0)]) hx hb dL_law_3925 hl (by decide) rfl (fun ls hl => ?_)
  refine lv_aload_n hx hb dL_law_3927 rfl (lv_at hl 4 rfl) ?_
  have hPc : va_P D vwCl [((a 200), .inr (21, [.int 1, .ref (a 201), .ref (a 202), .ref (a 203), .ref (a 204), .ref (a 205), .ref (a 206), .int 0, .int 0, .int 0, .int 0, .ref (a 208), .ref (a 209), .ref (a 210), .ref (a 211), .ref (a 212), .int 4, .int 12, .int (-1), .int 0, .ref (g 200), .ref (a 213), .int 0, .int 97, .ref (a 214), .ref (a 215), .ref (a 207), .null, .int 0]))] _ := hP.sub (ws' := [((a 200), .inr (21, [.int 1, .ref (a 201), .ref (a 202), .ref (a 203), .ref (a 204), .ref (a 205), .ref (a 206), .int 0, .int 0, .int 0, .int 0, .ref (a 208), .ref (a 209), .ref (a 210), .ref (a 211), .ref (a 212), .int 4, .int 12, .int (-1), .int 0, .ref (g 200), .ref (a 213), .int 0, .int 97, .ref (a 214), .ref (a 215), .ref (a 207), .null, .int 0]))]) [1] rfl
  have hDc : va_D (fun q => z0 ≤ q) [((a 200), .inr (21, [.int 1, .ref (a 201), .ref (a 202), .ref (a 203), .ref (a 204), .ref (a 205), .ref (a 206), .int 0, .int 0, .int 0, .int 0, .ref (a 208), .ref (a 209), .ref (a 210), .ref (a 211), .ref (a 212), .int 4, .int 12, .int (-1), .int 0, .ref (g 200), .ref (a 213), .int 0, .int 97, .ref (a 214), .ref (a 215), .ref (a 207), .null, .int 0]))] := (hD.to hAz).pick (ws' := [((a 200), .inr (21, [.int 1, .ref (a 201), .ref (a 202), .ref (a 203), .ref (a 204), .ref (a 205), .ref (a 206), .int 0, .int 0, .int 0, .int 0, .ref (a 208), .ref (a 209), .ref (a 210), .ref (a 211), .ref (a 212), .int 4, .int 12, .int (-1), .int 0, .ref (g 200), .ref (a 213), .int 0, .int 97, .ref (a 214), .ref (a 215), .ref (a 207), .null, .int 0]))]) [1] (by decide) rfl
  have hFc := va_free (wc := [((a 200), .inr (21, [.int 1, .ref (a 201), .ref (a 202), .ref (a 203), .ref (a 204), .ref (a 205), .ref (a 206), .int 0, .int 0, .int 0, .int 0, .ref (a 208), .ref (a 209), .ref (a 210), .ref (a 211), .ref (a 212), .int 4, .int 12, .int (-1), .int 0, .ref (g 200), .ref (a 213), .int 0, .int 97, .ref (a 214), .ref (a 215), .ref (a 207), .null, .int 0]))]) hD hS hA [1] rfl
  refine va_calli (va_runV (As := []) (rest := []) ⟨hx, hb, hml, hown, ht⟩ (k_X15_thrown_v2 l D g z0 _ a) (cwV 0 ht (gV w_772 w_774 w_775 w_334 w_773) rfl rfl rfl (by decide +kernel) (le2 rfl rfl)) ⟨PP.blind, va_recv hK.1 hP (ci := 21) (q0 := 1) rfl rfl, PP.mk' hK hZ hz hAz hS hPc hDc⟩ rfl rfl hl.1 rfl (lv_room (Nat.le_of_ble_eq_true rfl)) dL_law_3928 (le2 rfl rfl)) hS (fun q _ h => hFc q h) hFc (fun r u t H locs ht1 hvm hw hB hz1 hk1 hS => ?_)
  obtain ⟨rfl, hw⟩ := hw
  obtain ⟨hP1, hD1⟩ := hB
  rw [ht1] at hP1
  obtain ⟨hP, hD⟩ := va_join (wr := [(o1, .inl (g 1, 1, .inr (.inl (fun _ => 0))))]) (w1 := [((a 200), .inr (21, [.int 1, .ref (a 201), .ref (a 202), .ref (a 203), .ref (a 204), .ref (a 205), .ref (a 206), .int 0, .int 0, .int 0, .int 0, .ref (a 208), .ref (a 209), .ref (a 210), .ref (a 211), .ref (a 212), .int 4, .int 12, .int (-1), .int 0, .ref (g 200), .ref (a 213), .int 0, .int 97, .ref (a 214), .ref (a 215), .ref (a 207), .null, .int 0]))]) hP hD [1] [0] rfl rfl (by decide) (by decide) hk1 hFc hP1 hD1
  have hP : va_P D vwCl [(o1, .inl (g 1, 1, .inr (.inl (fun _ => 0)))), ((a 200), .inr (21, [.int 1, .ref (a 201), .ref (a 202), .ref (a 203), .ref (a 204), .ref (a 205), .ref (a 206), .int 0, .int 0, .int 0, .int 0, .ref (a 208), .ref (a 209), .ref (a 210), .ref (a 211), .ref (a 212), .int 4, .int 12, .int (-1), .int 0, .ref (g 200), .ref (a 213), .int 0, .int 97, .ref (a 214), .ref (a 215), .ref (a 207), .null, .int 0]))] H := hP
  have hD : va_D (va_A [] s.heap.size) [(o1, .inl (g 1, 1, .inr (.inl (fun _ => 0)))), ((a 200), .inr (21, [.int 1, .ref (a 201), .ref (a 202), .ref (a 203), .ref (a 204), .ref (a 205), .ref (a 206), .int 0, .int 0, .int 0, .int 0, .ref (a 208), .ref (a 209), .ref (a 210), .ref (a 211), .ref (a 212), .int 4, .int 12, .int (-1), .int 0, .ref (g 200), .ref (a 213), .int 0, .int 97, .ref (a 214), .ref (a 215), .ref (a 207), .null, .int 0]))] := hD
  refine lv_iload hx hb dL_law_3931 (lv_at hl 1 rfl) ?_
  refine lv_icmp_eq (tgt := 3938) hx hb dL_law_3933 (by decide) (fun c_1 => ?_) (fun c_1 => ?_)
  · refine lv_iload hx hb dL_law_3938 (lv_at hl 1 rfl) ?_
    refine lv_if_ne (tgt := 3955) hx hb dL_law_3940 (by decide) (fun c_2 => ?_) (fun c_2 => ?_)
    · refine lv_goto (tgt := 4264) hx hb dL_law_3955 (by decide) ?_
      refine W.widen (k := 200 + 300) (n := 8000 + 2000) (Nat.le_of_ble_eq_true rfl) (Nat.le_of_ble_eq_true rfl) ?_
      exact kk _ _ _ hS (lv_sub hl [7, 2] rfl)
    · exact absurd c_2 (by decide)
  · exact absurd c_1 (by decide)
set_option maxHeartbeats 4000000 in
set_option maxRecDepth 100000 in
theorem lw_case_65 {p : Program} {l : Launch} {e : Env} {s : State} {m : MethodId} {below : List Frame} {meth : Method} {c : Code} {H : Heap} {locs : List Loc} {ls : Array Slot} {Q : State → Prop} {D : va_G} {g : Nat → ClassId} {z0 b : Nat} {xs : Nat → Int32} {a : Nat → Nat} {o1 o2 : Nat} (hfl : l.stackTraces = false) (hx : p.tables.exec = Jvm.exec) (hb : c.code = cL_law) (hml : c.maxLocals = 9) (hown : s.vm.findClass RL = some m.cls) (ht : ∀ w ∈ TG, w.before #[Value.ref b] s = true) (hX : va_X b 6 xs s s.heap) (hbl : b < s.heap.size) (hbA : ¬ va_A [] s.heap.size b) (hK : KK D g s) (hZ : ZZ g z0 s) (hz : z0 ≤ s.heap.size) (hAz : ∀ q, va_A [] s.heap.size q → z0 ≤ q) (hP : va_P D vwCl (lwW a g o1 o2) H) (hD : va_D (va_A [] s.heap.size) (lwW a g o1 o2)) (hS : va_S (va_A [] s.heap.size) s.heap H locs) (hl : lv_has ls 9 [(0, .ref b), (1, .ref (a 0)), (2, .ref (a 200)), (3, .ref o1), (4, .ref o2), (5, .int 0)])
    (kk : ∀ (H : Heap) (locs : List Loc) (ls : Array Slot), va_S (va_A [] s.heap.size) s.heap H locs → lv_has ls 9 [(5, .int 0), (0, .ref b)] → W p l e room_1 s m #[Value.ref b] below meth c H locs (200 + 300) (8000 + 2000) Q (F0 m 4264 ls [])) :
    W p l e room_1 s m #[Value.ref b] below meth c H locs 200 8000 Q (F0 m 3958 ls []) := by
  have hA : ∀ q : Nat, s.heap.size ≤ q → va_A [] s.heap.size q := Anw
  have hP := hP.sub (ws' := [((a 0), f_x a), ((a 63), .inl (g 0, 6, .inl (fun _ => 0))), ((a 64), .inl (g 0, 6, .inl (fun _ => 0))), ((a 65), .inl (g 0, 6, .inl (fun _ => 0))), ((a 11), f_cores a), ((a 200), f_m a g), ((a 207), .inr (5, [.int 0, .ref (g 100), .int 0])), (o1, .inl (g 1, 1, .inr (.inl (fun _ => 0))))]) [0, 22, 23, 24, 25, 26, 33, 61] rfl
  have hD := hD.sub (ws' := [((a 0), f_x a), ((a 63), .inl (g 0, 6, .inl (fun _ => 0))), ((a 64), .inl (g 0, 6, .inl (fun _ => 0))), ((a 65), .inl (g 0, 6, .inl (fun _ => 0))), ((a 11), f_cores a), ((a 200), f_m a g), ((a 207), .inr (5, [.int 0, .ref (g 100), .int 0])), (o1, .inl (g 1, 1, .inr (.inl (fun _ => 0))))]) [0, 22, 23, 24, 25, 26, 33, 61] (by decide) rfl
  refine lv_aload_n hx hb dL_law_3958 rfl (lv_at hl 1 rfl) ?_
  refine lv_aload_n hx hb dL_law_3959 rfl (lv_at hl 0 rfl) ?_
  refine lv_iload hx hb dL_law_3960 (lv_at hl 5 rfl) ?_
  refine lv_iconst (v := 1) hx hb dL_law_3962 (by decide) ?_
  refine lv_iadd hx hb dL_law_3963 ?_
  refine r_topi (v := 1) (by decide) ?_
  refine va_sld hx hb hX hbl hbA hS (by unfold vp_in; decide) dL_law_3964 ?_
  refine r_topi (v := xs 1) (congrArg xs (by decide)) ?_
  refine lv_aload_n hx hb dL_law_3965 rfl (lv_at hl 0 rfl) ?_
  refine lv_iload hx hb dL_law_3966 (lv_at hl 5 rfl) ?_
  refine lv_iconst (v := 2) hx hb dL_law_3968 (by decide) ?_
  refine lv_iadd hx hb dL_law_3969 ?_
  refine r_topi (v := 2) (by decide) ?_
  refine va_sld hx hb hX hbl hbA hS (by unfold vp_in; decide) dL_law_3970 ?_
  refine r_topi (v := xs 2) (congrArg xs (by decide)) ?_
  refine lv_aload_n hx hb dL_law_3971 rfl (lv_at hl 0 rfl) ?_
  refine lv_iload hx hb dL_law_3972 (lv_at hl 5 rfl) ?_
  refine lv_iconst (v := 3) hx hb dL_law_3974 (by decide) ?_
  refine lv_iadd hx hb dL_law_3975 ?_
  refine r_topi (v := 3) (by decide) ?_
  refine va_sld hx hb hX hbl hbA hS (by unfold vp_in; decide) dL_law_3976 ?_
  refine r_topi (v := xs 3) (congrArg xs (by decide)) ?_
  refine lv_aload_n hx hb dL_law_3977 rfl (lv_at hl 3 rfl) ?_
  have hPc : va_P D vwCl [(o1, .inl (g 1, 1, .inr (.inl (fun _ => 0)))), ((a 0), f_x a), ((a 11), f_cores a), ((a 63), .inl (g 0, 6, .inl (fun _ => 0))), ((a 64), .inl (g 0, 6, .inl (fun _ => 0))), ((a 65), .inl (g 0, 6, .inl (fun _ => 0)))] _ := hP.sub (ws' := [(o1, .inl (g 1, 1, .inr (.inl (fun _ => 0)))), ((a 0), f_x a), ((a 11), f_cores a), ((a 63), .inl (g 0, 6, .inl (fun _ => 0))), ((a 64), .inl (g 0, 6, .inl (fun _ => 0))), ((a 65), .inl (g 0, 6, .inl (fun _ => 0)))]) [7, 0, 4, 1, 2, 3] rfl
  have hDc : va_D (fun q => z0 ≤ q) [(o1, .inl (g 1, 1, .inr (.inl (fun _ => 0)))), ((a 0), f_x a), ((a 11), f_cores a), ((a 63), .inl (g 0, 6, .inl (fun _ => 0))), ((a 64), .inl (g 0, 6, .inl (fun _ => 0))), ((a 65), .inl (g 0, 6, .inl (fun _ => 0)))] := (hD.to hAz).pick (ws' := [(o1, .inl (g 1, 1, .inr (.inl (fun _ => 0)))), ((a 0), f_x a), ((a 11), f_cores a), ((a 63), .inl (g 0, 6, .inl (fun _ => 0))), ((a 64), .inl (g 0, 6, .inl (fun _ => 0))), ((a 65), .inl (g 0, 6, .inl (fun _ => 0)))]) [7, 0, 4, 1, 2, 3] (by decide) rfl
  have hFc := va_free (wc := [(o1, .inl (g 1, 1, .inr (.inl (fun _ => 0)))), ((a 0), f_x a), ((a 11), f_cores a), ((a 63), .inl (g 0, 6, .inl (fun _ => 0))), ((a 64), .inl (g 0, 6, .inl (fun _ => 0))), ((a 65), .inl (g 0, 6, .inl (fun _ => 0)))]) hD hS hA [7, 0, 4, 1, 2, 3] rfl
  refine va_calli (vx_runSW (As := [.ref (a 0), .int (xs 1), .int (xs 2), .int (xs 3), .ref o1]) (rest := []) ⟨hx, hb, hml, hown, ht⟩ (k_L_core l hfl D g z0 _ a (xs 1) (xs 2) (xs 3) o1) (vx_cwSW 5 ht (gS w_1192 w_1194 w_767 w_1193) rfl rfl rfl (by decide +kernel) (le2 rfl rfl)) ⟨PP.blind, PP.mk' hK hZ hz hAz hS hPc hDc⟩ rfl rfl hl.1 rfl (lv_room (Nat.le_of_ble_eq_true rfl)) dL_law_3978 (le2 rfl rfl)) hS (fun q _ h => hFc q h) hFc (fun r u t H locs ht1 hvm hw hB hz1 hk1 hS => ?_)
  rcases hw with hw | hw
  · obtain ⟨rfl, hw⟩ := hw
    rcases hw with hw | hw | hw | hw | hw | hw
    · have c_1 := hw
      obtain ⟨hP1, hD1⟩ := hB
      rw [ht1] at hP1
      obtain ⟨hP, hD⟩ := va_join (wr := [((a 200), f_m a g), ((a 207), .inr (5, [.int 0, .ref (g 100), .int 0]))]) (w1 := [(o1, .inl (g 1, 1, .inr (.inl (fun _ => 0))))]) hP hD [7, 0, 4, 1, 2, 3] [5, 6] rfl rfl (by decide) (by decide) hk1 hFc hP1 hD1
      have hP : va_P D vwCl [((a 200), f_m a g), ((a 207), .inr (5, [.int 0, .ref (g 100), .int 0])), (o1, .inl (g 1, 1, .inr (.inl (fun _ => 0))))] H := hP
      have hD : va_D (va_A [] s.heap.size) [((a 200), f_m a g), ((a 207), .inr (5, [.int 0, .ref (g 100), .int 0])), (o1, .inl (g 1, 1, .inr (.inl (fun _ => 0))))] := hD
      refine lv_istore (lv' := [(6, .int 1), (0, .ref b), (1, .ref (a 0)), (2, .ref (a 200)), (3, .ref o1), (4, .ref o2), (5, .int 0)]) hx hb dL_law_3981 hl (by decide) rfl (fun ls hl => ?_)
      refine lv_aload_n hx hb dL_law_3983 rfl (lv_at hl 3 rfl) ?_
      refine lv_aload_n hx hb dL_law_3984 rfl (lv_at hl 1 rfl) ?_
      refine lv_iload hx hb dL_law_3985 (lv_at hl 6 rfl) ?_
      refine lv_iconst (v := 1) hx hb dL_law_3987 (by decide) ?_
      refine lv_iadd hx hb dL_law_3988 ?_
      refine r_topi (v := 1) (by decide) ?_
      refine va_sld hx hb hX hbl hbA hS (by unfold vp_in; decide) dL_law_3989 ?_
      refine r_topi (v := xs 1) (congrArg xs (by decide)) ?_
      refine lv_aload_n hx hb dL_law_3990 rfl (lv_at hl 1 rfl) ?_
      refine lv_iload hx hb dL_law_3991 (lv_at hl 6 rfl) ?_
      refine lv_iconst (v := 2) hx hb dL_law_3993 (by decide) ?_
      refine lv_iadd hx hb dL_law_3994 ?_
      refine r_topi (v := 2) (by decide) ?_
      refine va_sld hx hb hX hbl hbA hS (by unfold vp_in; decide) dL_law_3995 ?_
      refine r_topi (v := xs 2) (congrArg xs (by decide)) ?_
      refine lv_aload_n hx hb dL_law_3996 rfl (lv_at hl 1 rfl) ?_
      refine lv_iload hx hb dL_law_3997 (lv_at hl 6 rfl) ?_
      refine lv_iconst (v := 3) hx hb dL_law_3999 (by decide) ?_
      refine lv_iadd hx hb dL_law_4000 ?_
      refine r_topi (v := 3) (by decide) ?_
      refine va_sld hx hb hX hbl hbA hS (by unfold vp_in; decide) dL_law_4001 ?_
      refine r_topi (v := xs 3) (congrArg xs (by decide)) ?_
      have hPc : va_P D vwCl [((a 200), f_m a g), ((a 207), .inr (5, [.int 0, .ref (g 100), .int 0]))] _ := hP.sub (ws' := [((a 200), f_m a g), ((a 207), .inr (5, [.int 0, .ref (g 100), .int 0]))]) [0, 1] rfl
      have hDc : va_D (fun q => z0 ≤ q) [((a 200), f_m a g), ((a 207), .inr (5, [.int 0, .ref (g 100), .int 0]))] := (hD.to hAz).pick (ws' := [((a 200), f_m a g), ((a 207), .inr (5, [.int 0, .ref (g 100), .int 0]))]) [0, 1] (by decide) rfl
      have hFc := va_free (wc := [((a 200), f_m a g), ((a 207), .inr (5, [.int 0, .ref (g 100), .int 0]))]) hD hS hA [0, 1] rfl
      refine va_calli (va_runV (As := [.int (xs 1), .int (xs 2), .int (xs 3)]) (rest := []) ⟨hx, hb, hml, hown, ht⟩ (k_X15_core l D g z0 _ a (xs 1) (xs 2) (xs 3)) (cwV 3 ht (gV w_1195 w_1197 w_1198 w_334 w_1196) rfl rfl rfl (by decide +kernel) (le2 rfl rfl)) ⟨PP.blind, va_recv hK.1 hP (ci := 21) (q0 := 0) rfl rfl, PP.mk' hK hZ hz hAz hS hPc hDc⟩ rfl rfl hl.1 rfl (lv_room (Nat.le_of_ble_eq_true rfl)) dL_law_4002 (le2 rfl rfl)) hS (fun q _ h => hFc q h) hFc (fun r u t H locs ht1 hvm hw hB hz1 hk1 hS => ?_)
      rcases hw with hw | hw
      · obtain ⟨rfl, rfl, hw⟩ := hw
        rcases hw with hw | hw | hw | hw | hw | hw
        · have c_2 := hw
          obtain ⟨hP1, hD1⟩ := hB
          rw [ht1] at hP1
          obtain ⟨hP, hD⟩ := va_join (wr := [(o1, .inl (g 1, 1, .inr (.inl (fun _ => 0))))]) (w1 := [((a 200), .inr (21, [.int 1, .ref (a 201), .ref (a 202), .ref (a 203), .ref (a 204), .ref (a 205), .ref (a 206), .int 0, .int 0, .int 0, .int 0, .ref (a 208), .ref (a 209), .ref (a 210), .ref (a 211), .ref (a 212), .int 4, .int 12, .int (-1), .int 0, .ref (g 200), .ref (a 213), .int 0, .int 97, .ref (a 214), .ref (a 215), .ref (a 207), .null, .int 0]))]) hP hD [0, 1] [2] rfl rfl (by decide) (by decide) hk1 hFc hP1 hD1
          have hP : va_P D vwCl [(o1, .inl (g 1, 1, .inr (.inl (fun _ => 0)))), ((a 200), .inr (21, [.int 1, .ref (a 201), .ref (a 202), .ref (a 203), .ref (a 204), .ref (a 205), .ref (a 206), .int 0, .int 0, .int 0, .int 0, .ref (a 208), .ref (a 209), .ref (a 210), .ref (a 211), .ref (a 212), .int 4, .int 12, .int (-1), .int 0, .ref (g 200), .ref (a 213), .int 0, .int 97, .ref (a 214), .ref (a 215), .ref (a 207), .null, .int 0]))] H := hP
          have hD : va_D (va_A [] s.heap.size) [(o1, .inl (g 1, 1, .inr (.inl (fun _ => 0)))), ((a 200), .inr (21, [.int 1, .ref (a 201), .ref (a 202), .ref (a 203), .ref (a 204), .ref (a 205), .ref (a 206), .int 0, .int 0, .int 0, .int 0, .ref (a 208), .ref (a 209), .ref (a 210), .ref (a 211), .ref (a 212), .int 4, .int 12, .int (-1), .int 0, .ref (g 200), .ref (a 213), .int 0, .int 97, .ref (a 214), .ref (a 215), .ref (a 207), .null, .int 0]))] := hD
          refine lv_istore (lv' := [(7, .int 0), (6, .int 1), (0, .ref b), (1, .ref (a 0)), (2, .ref (a 200)), (3, .ref o1), (4, .ref o2), (5, .int 0)]) hx hb dL_law_4005 hl (by decide) rfl (fun ls hl => ?_)
          refine lv_aload_n hx hb dL_law_4007 rfl (lv_at hl 4 rfl) ?_
          have hPc : va_P D vwCl [((a 200), .inr (21, [.int 1, .ref (a 201), .ref (a 202), .ref (a 203), .ref (a 204), .ref (a 205), .ref (a 206), .int 0, .int 0, .int 0, .int 0, .ref (a 208), .ref (a 209), .ref (a 210), .ref (a 211), .ref (a 212), .int 4, .int 12, .int (-1), .int 0, .ref (g 200), .ref (a 213), .int 0, .int 97, .ref (a 214), .ref (a 215), .ref (a 207), .null, .int 0]))] _ := hP.sub (ws' := [((a 200), .inr (21, [.int 1, .ref (a 201), .ref (a 202), .ref (a 203), .ref (a 204), .ref (a 205), .ref (a 206), .int 0, .int 0, .int 0, .int 0, .ref (a 208), .ref (a 209), .ref (a 210), .ref (a 211), .ref (a 212), .int 4, .int 12, .int (-1), .int 0, .ref (g 200), .ref (a 213), .int 0, .int 97, .ref (a 214), .ref (a 215), .ref (a 207), .null, .int 0]))]) [1] rfl
          have hDc : va_D (fun q => z0 ≤ q) [((a 200), .inr (21, [.int 1, .ref (a 201), .ref (a 202), .ref (a 203), .ref (a 204), .ref (a 205), .ref (a 206), .int 0, .int 0, .int 0, .int 0, .ref (a 208), .ref (a 209), .ref (a 210), .ref (a 211), .ref (a 212), .int 4, .int 12, .int (-1), .int 0, .ref (g 200), .ref (a 213), .int 0, .int 97, .ref (a 214), .ref (a 215), .ref (a 207), .null, .int 0]))] := (hD.to hAz).pick (ws' := [((a 200), .inr (21, [.int 1, .ref (a 201), .ref (a 202), .ref (a 203), .ref (a 204), .ref (a 205), .ref (a 206), .int 0, .int 0, .int 0, .int 0, .ref (a 208), .ref (a 209), .ref (a 210), .ref (a 211), .ref (a 212), .int 4, .int 12, .int (-1), .int 0, .ref (g 200), .ref (a 213), .int 0, .int 97, .ref (a 214), .ref (a 215), .ref (a 207), .null, .int 0]))]) [1] (by decide) rfl
          have hFc := va_free (wc := [((a 200), .inr (21, [.int 1, .ref (a 201), .ref (a 202), .ref (a 203), .ref (a 204), .ref (a 205), .ref (a 206), .int 0, .int 0, .int 0, .int 0, .ref (a 208), .ref (a 209), .ref (a 210), .ref (a 211), .ref (a 212), .int 4, .int 12, .int (-1), .int 0, .ref (g 200), .ref (a 213), .int 0, .int 97, .ref (a 214), .ref (a 215), .ref (a 207), .null, .int 0]))]) hD hS hA [1] rfl
          refine va_calli (va_runV (As := []) (rest := []) ⟨hx, hb, hml, hown, ht⟩ (k_X15_thrown_v2 l D g z0 _ a) (cwV 0 ht (gV w_772 w_774 w_775 w_334 w_773) rfl rfl rfl (by decide +kernel) (le2 rfl rfl)) ⟨PP.blind, va_recv hK.1 hP (ci := 21) (q0 := 1) rfl rfl, PP.mk' hK hZ hz hAz hS hPc hDc⟩ rfl rfl hl.1 rfl (lv_room (Nat.le_of_ble_eq_true rfl)) dL_law_4008 (le2 rfl rfl)) hS (fun q _ h => hFc q h) hFc (fun r u t H locs ht1 hvm hw hB hz1 hk1 hS => ?_)
          obtain ⟨rfl, hw⟩ := hw
          obtain ⟨hP1, hD1⟩ := hB
          rw [ht1] at hP1
          obtain ⟨hP, hD⟩ := va_join (wr := [(o1, .inl (g 1, 1, .inr (.inl (fun _ => 0))))]) (w1 := [((a 200), .inr (21, [.int 1, .ref (a 201), .ref (a 202), .ref (a 203), .ref (a 204), .ref (a 205), .ref (a 206), .int 0, .int 0, .int 0, .int 0, .ref (a 208), .ref (a 209), .ref (a 210), .ref (a 211), .ref (a 212), .int 4, .int 12, .int (-1), .int 0, .ref (g 200), .ref (a 213), .int 0, .int 97, .ref (a 214), .ref (a 215), .ref (a 207), .null, .int 0]))]) hP hD [1] [0] rfl rfl (by decide) (by decide) hk1 hFc hP1 hD1
          have hP : va_P D vwCl [(o1, .inl (g 1, 1, .inr (.inl (fun _ => 0)))), ((a 200), .inr (21, [.int 1, .ref (a 201), .ref (a 202), .ref (a 203), .ref (a 204), .ref (a 205), .ref (a 206), .int 0, .int 0, .int 0, .int 0, .ref (a 208), .ref (a 209), .ref (a 210), .ref (a 211), .ref (a 212), .int 4, .int 12, .int (-1), .int 0, .ref (g 200), .ref (a 213), .int 0, .int 97, .ref (a 214), .ref (a 215), .ref (a 207), .null, .int 0]))] H := hP
          have hD : va_D (va_A [] s.heap.size) [(o1, .inl (g 1, 1, .inr (.inl (fun _ => 0)))), ((a 200), .inr (21, [.int 1, .ref (a 201), .ref (a 202), .ref (a 203), .ref (a 204), .ref (a 205), .ref (a 206), .int 0, .int 0, .int 0, .int 0, .ref (a 208), .ref (a 209), .ref (a 210), .ref (a 211), .ref (a 212), .int 4, .int 12, .int (-1), .int 0, .ref (g 200), .ref (a 213), .int 0, .int 97, .ref (a 214), .ref (a 215), .ref (a 207), .null, .int 0]))] := hD
          refine lv_iload hx hb dL_law_4011 (lv_at hl 1 rfl) ?_
          refine lv_icmp_eq (tgt := 4018) hx hb dL_law_4013 (by decide) (fun c_3 => ?_) (fun c_3 => ?_)
          · refine lv_iload hx hb dL_law_4018 (lv_at hl 1 rfl) ?_
            refine lv_if_ne (tgt := 4035) hx hb dL_law_4020 (by decide) (fun c_4 => ?_) (fun c_4 => ?_)
            · refine lv_goto (tgt := 4264) hx hb dL_law_4035 (by decide) ?_
              refine W.widen (k := 200 + 300) (n := 8000 + 2000) (Nat.le_of_ble_eq_true rfl) (Nat.le_of_ble_eq_true rfl) ?_
              exact kk _ _ _ hS (lv_sub hl [7, 2] rfl)
            · exact absurd c_4 (by decide)
          · exact absurd c_3 (by decide)
        · obtain ⟨c_5, c_6⟩ := hw
          exact absurd c_1 c_5
        · obtain ⟨c_7, c_8, c_9⟩ := hw
          exact absurd c_1 c_7
        · obtain ⟨c_10, c_11, c_12, c_13⟩ := hw
          exact absurd c_1 c_10
        · obtain ⟨c_14, c_15, c_16, c_17, c_18⟩ := hw
          exact absurd c_1 c_14
        · obtain ⟨c_19, c_20, c_21, c_22, c_23, c_24⟩ := hw
          exact absurd c_1 c_19
      · obtain ⟨rfl, rfl, hw⟩ := hw
        obtain ⟨c_25, c_26, c_27, c_28, c_29, c_30⟩ := hw
        exact absurd c_1 c_25
    · obtain ⟨c_31, c_32⟩ := hw
      obtain ⟨hP1, hD1⟩ := hB
      rw [ht1] at hP1
      obtain ⟨hP, hD⟩ := va_join (wr := [((a 200), f_m a g), ((a 207), .inr (5, [.int 0, .ref (g 100), .int 0]))]) (w1 := [(o1, .inl (g 1, 1, .inr (.inl (fun _ => 0))))]) hP hD [7, 0, 4, 1, 2, 3] [5, 6] rfl rfl (by decide) (by decide) hk1 hFc hP1 hD1
      have hP : va_P D vwCl [((a 200), f_m a g), ((a 207), .inr (5, [.int 0, .ref (g 100), .int 0])), (o1, .inl (g 1, 1, .inr (.inl (fun _ => 0))))] H := hP
      have hD : va_D (va_A [] s.heap.size) [((a 200), f_m a g), ((a 207), .inr (5, [.int 0, .ref (g 100), .int 0])), (o1, .inl (g 1, 1, .inr (.inl (fun _ => 0))))] := hD
      refine lv_istore (lv' := [(6, .int 1), (0, .ref b), (1, .ref (a 0)), (2, .ref (a 200)), (3, .ref o1), (4, .ref o2), (5, .int 0)]) hx hb dL_law_3981 hl (by decide) rfl (fun ls hl => ?_)
      refine lv_aload_n hx hb dL_law_3983 rfl (lv_at hl 3 rfl) ?_
      refine lv_aload_n hx hb dL_law_3984 rfl (lv_at hl 1 rfl) ?_
      refine lv_iload hx hb dL_law_3985 (lv_at hl 6 rfl) ?_
      refine lv_iconst (v := 1) hx hb dL_law_3987 (by decide) ?_
      refine lv_iadd hx hb dL_law_3988 ?_
      refine r_topi (v := 1) (by decide) ?_
      refine va_sld hx hb hX hbl hbA hS (by unfold vp_in; decide) dL_law_3989 ?_
      refine r_topi (v := xs 1) (congrArg xs (by decide)) ?_
      refine lv_aload_n hx hb dL_law_3990 rfl (lv_at hl 1 rfl) ?_
      refine lv_iload hx hb dL_law_3991 (lv_at hl 6 rfl) ?_
      refine lv_iconst (v := 2) hx hb dL_law_3993 (by decide) ?_
      refine lv_iadd hx hb dL_law_3994 ?_
      refine r_topi (v := 2) (by decide) ?_
      refine va_sld hx hb hX hbl hbA hS (by unfold vp_in; decide) dL_law_3995 ?_
      refine r_topi (v := xs 2) (congrArg xs (by decide)) ?_
      refine lv_aload_n hx hb dL_law_3996 rfl (lv_at hl 1 rfl) ?_
      refine lv_iload hx hb dL_law_3997 (lv_at hl 6 rfl) ?_
      refine lv_iconst (v := 3) hx hb dL_law_3999 (by decide) ?_
      refine lv_iadd hx hb dL_law_4000 ?_
      refine r_topi (v := 3) (by decide) ?_
      refine va_sld hx hb hX hbl hbA hS (by unfold vp_in; decide) dL_law_4001 ?_
      refine r_topi (v := xs 3) (congrArg xs (by decide)) ?_
      have hPc : va_P D vwCl [((a 200), f_m a g), ((a 207), .inr (5, [.int 0, .ref (g 100), .int 0]))] _ := hP.sub (ws' := [((a 200), f_m a g), ((a 207), .inr (5, [.int 0, .ref (g 100), .int 0]))]) [0, 1] rfl
      have hDc : va_D (fun q => z0 ≤ q) [((a 200), f_m a g), ((a 207), .inr (5, [.int 0, .ref (g 100), .int 0]))] := (hD.to hAz).pick (ws' := [((a 200), f_m a g), ((a 207), .inr (5, [.int 0, .ref (g 100), .int 0]))]) [0, 1] (by decide) rfl
      have hFc := va_free (wc := [((a 200), f_m a g), ((a 207), .inr (5, [.int 0, .ref (g 100), .int 0]))]) hD hS hA [0, 1] rfl
      refine va_calli (va_runV (As := [.int (xs 1), .int (xs 2), .int (xs 3)]) (rest := []) ⟨hx, hb, hml, hown, ht⟩ (k_X15_core l D g z0 _ a (xs 1) (xs 2) (xs 3)) (cwV 3 ht (gV w_1195 w_1197 w_1198 w_334 w_1196) rfl rfl rfl (by decide +kernel) (le2 rfl rfl)) ⟨PP.blind, va_recv hK.1 hP (ci := 21) (q0 := 0) rfl rfl, PP.mk' hK hZ hz hAz hS hPc hDc⟩ rfl rfl hl.1 rfl (lv_room (Nat.le_of_ble_eq_true rfl)) dL_law_4002 (le2 rfl rfl)) hS (fun q _ h => hFc q h) hFc (fun r u t H locs ht1 hvm hw hB hz1 hk1 hS => ?_)
      rcases hw with hw | hw
      · obtain ⟨rfl, rfl, hw⟩ := hw
        rcases hw with hw | hw | hw | hw | hw | hw
        · have c_33 := hw
          exact absurd c_33 c_31
        · obtain ⟨c_34, c_35⟩ := hw
          obtain ⟨hP1, hD1⟩ := hB
          rw [ht1] at hP1
          obtain ⟨hP, hD⟩ := va_join (wr := [(o1, .inl (g 1, 1, .inr (.inl (fun _ => 0))))]) (w1 := [((a 200), .inr (21, [.int 1, .ref (a 201), .ref (a 202), .ref (a 203), .ref (a 204), .ref (a 205), .ref (a 206), .int 0, .int 0, .int 0, .int 0, .ref (a 208), .ref (a 209), .ref (a 210), .ref (a 211), .ref (a 212), .int 4, .int 12, .int (-1), .int 0, .ref (g 200), .ref (a 213), .int 0, .int 97, .ref (a 214), .ref (a 215), .ref (a 207), .null, .int 0]))]) hP hD [0, 1] [2] rfl rfl (by decide) (by decide) hk1 hFc hP1 hD1
          have hP : va_P D vwCl [(o1, .inl (g 1, 1, .inr (.inl (fun _ => 0)))), ((a 200), .inr (21, [.int 1, .ref (a 201), .ref (a 202), .ref (a 203), .ref (a 204), .ref (a 205), .ref (a 206), .int 0, .int 0, .int 0, .int 0, .ref (a 208), .ref (a 209), .ref (a 210), .ref (a 211), .ref (a 212), .int 4, .int 12, .int (-1), .int 0, .ref (g 200), .ref (a 213), .int 0, .int 97, .ref (a 214), .ref (a 215), .ref (a 207), .null, .int 0]))] H := hP
          have hD : va_D (va_A [] s.heap.size) [(o1, .inl (g 1, 1, .inr (.inl (fun _ => 0)))), ((a 200), .inr (21, [.int 1, .ref (a 201), .ref (a 202), .ref (a 203), .ref (a 204), .ref (a 205), .ref (a 206), .int 0, .int 0, .int 0, .int 0, .ref (a 208), .ref (a 209), .ref (a 210), .ref (a 211), .ref (a 212), .int 4, .int 12, .int (-1), .int 0, .ref (g 200), .ref (a 213), .int 0, .int 97, .ref (a 214), .ref (a 215), .ref (a 207), .null, .int 0]))] := hD
          refine lv_istore (lv' := [(7, .int 0), (6, .int 1), (0, .ref b), (1, .ref (a 0)), (2, .ref (a 200)), (3, .ref o1), (4, .ref o2), (5, .int 0)]) hx hb dL_law_4005 hl (by decide) rfl (fun ls hl => ?_)
          refine lv_aload_n hx hb dL_law_4007 rfl (lv_at hl 4 rfl) ?_
          have hPc : va_P D vwCl [((a 200), .inr (21, [.int 1, .ref (a 201), .ref (a 202), .ref (a 203), .ref (a 204), .ref (a 205), .ref (a 206), .int 0, .int 0, .int 0, .int 0, .ref (a 208), .ref (a 209), .ref (a 210), .ref (a 211), .ref (a 212), .int 4, .int 12, .int (-1), .int 0, .ref (g 200), .ref (a 213), .int 0, .int 97, .ref (a 214), .ref (a 215), .ref (a 207), .null, .int 0]))] _ := hP.sub (ws' := [((a 200), .inr (21, [.int 1, .ref (a 201), .ref (a 202), .ref (a 203), .ref (a 204), .ref (a 205), .ref (a 206), .int 0, .int 0, .int 0, .int 0, .ref (a 208), .ref (a 209), .ref (a 210), .ref (a 211), .ref (a 212), .int 4, .int 12, .int (-1), .int 0, .ref (g 200), .ref (a 213), .int 0, .int 97, .ref (a 214), .ref (a 215), .ref (a 207), .null, .int 0]))]) [1] rfl
          have hDc : va_D (fun q => z0 ≤ q) [((a 200), .inr (21, [.int 1, .ref (a 201), .ref (a 202), .ref (a 203), .ref (a 204), .ref (a 205), .ref (a 206), .int 0, .int 0, .int 0, .int 0, .ref (a 208), .ref (a 209), .ref (a 210), .ref (a 211), .ref (a 212), .int 4, .int 12, .int (-1), .int 0, .ref (g 200), .ref (a 213), .int 0, .int 97, .ref (a 214), .ref (a 215), .ref (a 207), .null, .int 0]))] := (hD.to hAz).pick (ws' := [((a 200), .inr (21, [.int 1, .ref (a 201), .ref (a 202), .ref (a 203), .ref (a 204), .ref (a 205), .ref (a 206), .int 0, .int 0, .int 0, .int 0, .ref (a 208), .ref (a 209), .ref (a 210), .ref (a 211), .ref (a 212), .int 4, .int 12, .int (-1), .int 0, .ref (g 200), .ref (a 213), .int 0, .int 97, .ref (a 214), .ref (a 215), .ref (a 207), .null, .int 0]))]) [1] (by decide) rfl
          have hFc := va_free (wc := [((a 200), .inr (21, [.int 1, .ref (a 201), .ref (a 202), .ref (a 203), .ref (a 204), .ref (a 205), .ref (a 206), .int 0, .int 0, .int 0, .int 0, .ref (a 208), .ref (a 209), .ref (a 210), .ref (a 211), .ref (a 212), .int 4, .int 12, .int (-1), .int 0, .ref (g 200), .ref (a 213), .int 0, .int 97, .ref (a 214), .ref (a 215), .ref (a 207), .null, .int 0]))]) hD hS hA [1] rfl
          refine va_calli (va_runV (As := []) (rest := []) ⟨hx, hb, hml, hown, ht⟩ (k_X15_thrown_v2 l D g z0 _ a) (cwV 0 ht (gV w_772 w_774 w_775 w_334 w_773) rfl rfl rfl (by decide +kernel) (le2 rfl rfl)) ⟨PP.blind, va_recv hK.1 hP (ci := 21) (q0 := 1) rfl rfl, PP.mk' hK hZ hz hAz hS hPc hDc⟩ rfl rfl hl.1 rfl (lv_room (Nat.le_of_ble_eq_true rfl)) dL_law_4008 (le2 rfl rfl)) hS (fun q _ h => hFc q h) hFc (fun r u t H locs ht1 hvm hw hB hz1 hk1 hS => ?_)
          obtain ⟨rfl, hw⟩ := hw
          obtain ⟨hP1, hD1⟩ := hB
          rw [ht1] at hP1
          obtain ⟨hP, hD⟩ := va_join (wr := [(o1, .inl (g 1, 1, .inr (.inl (fun _ => 0))))]) (w1 := [((a 200), .inr (21, [.int 1, .ref (a 201), .ref (a 202), .ref (a 203), .ref (a 204), .ref (a 205), .ref (a 206), .int 0, .int 0, .int 0, .int 0, .ref (a 208), .ref (a 209), .ref (a 210), .ref (a 211), .ref (a 212), .int 4, .int 12, .int (-1), .int 0, .ref (g 200), .ref (a 213), .int 0, .int 97, .ref (a 214), .ref (a 215), .ref (a 207), .null, .int 0]))]) hP hD [1] [0] rfl rfl (by decide) (by decide) hk1 hFc hP1 hD1
          have hP : va_P D vwCl [(o1, .inl (g 1, 1, .inr (.inl (fun _ => 0)))), ((a 200), .inr (21, [.int 1, .ref (a 201), .ref (a 202), .ref (a 203), .ref (a 204), .ref (a 205), .ref (a 206), .int 0, .int 0, .int 0, .int 0, .ref (a 208), .ref (a 209), .ref (a 210), .ref (a 211), .ref (a 212), .int 4, .int 12, .int (-1), .int 0, .ref (g 200), .ref (a 213), .int 0, .int 97, .ref (a 214), .ref (a 215), .ref (a 207), .null, .int 0]))] H := hP
          have hD : va_D (va_A [] s.heap.size) [(o1, .inl (g 1, 1, .inr (.inl (fun _ => 0)))), ((a 200), .inr (21, [.int 1, .ref (a 201), .ref (a 202), .ref (a 203), .ref (a 204), .ref (a 205), .ref (a 206), .int 0, .int 0, .int 0, .int 0, .ref (a 208), .ref (a 209), .ref (a 210), .ref (a 211), .ref (a 212), .int 4, .int 12, .int (-1), .int 0, .ref (g 200), .ref (a 213), .int 0, .int 97, .ref (a 214), .ref (a 215), .ref (a 207), .null, .int 0]))] := hD
          refine lv_iload hx hb dL_law_4011 (lv_at hl 1 rfl) ?_
          refine lv_icmp_eq (tgt := 4018) hx hb dL_law_4013 (by decide) (fun c_36 => ?_) (fun c_36 => ?_)
          · refine lv_iload hx hb dL_law_4018 (lv_at hl 1 rfl) ?_
            refine lv_if_ne (tgt := 4035) hx hb dL_law_4020 (by decide) (fun c_37 => ?_) (fun c_37 => ?_)
            · refine lv_goto (tgt := 4264) hx hb dL_law_4035 (by decide) ?_
              refine W.widen (k := 200 + 300) (n := 8000 + 2000) (Nat.le_of_ble_eq_true rfl) (Nat.le_of_ble_eq_true rfl) ?_
              exact kk _ _ _ hS (lv_sub hl [7, 2] rfl)
            · exact absurd c_37 (by decide)
          · exact absurd c_36 (by decide)
        · obtain ⟨c_38, c_39, c_40⟩ := hw
          exact absurd (Int.le_trans (lo_nle c_32) (up_nlt c_39)) (by decide)
        · obtain ⟨c_41, c_42, c_43, c_44⟩ := hw
          exact absurd (Int.le_trans (lo_nle c_32) (up_nlt c_42)) (by decide)
        · obtain ⟨c_45, c_46, c_47, c_48, c_49⟩ := hw
          exact absurd (Int.le_trans (lo_nle c_32) (up_nlt c_46)) (by decide)
        · obtain ⟨c_50, c_51, c_52, c_53, c_54, c_55⟩ := hw
          exact absurd (Int.le_trans (lo_nle c_32) (up_nlt c_51)) (by decide)
      · obtain ⟨rfl, rfl, hw⟩ := hw
        obtain ⟨c_56, c_57, c_58, c_59, c_60, c_61⟩ := hw
        exact absurd (Int.le_trans (lo_nle c_32) (up_nlt c_57)) (by decide)
    · obtain ⟨c_62, c_63, c_64⟩ := hw
      obtain ⟨hP1, hD1⟩ := hB
      rw [ht1] at hP1
      obtain ⟨hP, hD⟩ := va_join (wr := [((a 200), f_m a g), ((a 207), .inr (5, [.int 0, .ref (g 100), .int 0]))]) (w1 := [(o1, .inl (g 1, 1, .inr (.inl (fun _ => 0))))]) hP hD [7, 0, 4, 1, 2, 3] [5, 6] rfl rfl (by decide) (by decide) hk1 hFc hP1 hD1
      have hP : va_P D vwCl [((a 200), f_m a g), ((a 207), .inr (5, [.int 0, .ref (g 100), .int 0])), (o1, .inl (g 1, 1, .inr (.inl (fun _ => 0))))] H := hP
      have hD : va_D (va_A [] s.heap.size) [((a 200), f_m a g), ((a 207), .inr (5, [.int 0, .ref (g 100), .int 0])), (o1, .inl (g 1, 1, .inr (.inl (fun _ => 0))))] := hD
      refine lv_istore (lv' := [(6, .int 1), (0, .ref b), (1, .ref (a 0)), (2, .ref (a 200)), (3, .ref o1), (4, .ref o2), (5, .int 0)]) hx hb dL_law_3981 hl (by decide) rfl (fun ls hl => ?_)
      refine lv_aload_n hx hb dL_law_3983 rfl (lv_at hl 3 rfl) ?_
      refine lv_aload_n hx hb dL_law_3984 rfl (lv_at hl 1 rfl) ?_
      refine lv_iload hx hb dL_law_3985 (lv_at hl 6 rfl) ?_
      refine lv_iconst (v := 1) hx hb dL_law_3987 (by decide) ?_
      refine lv_iadd hx hb dL_law_3988 ?_
      refine r_topi (v := 1) (by decide) ?_
      refine va_sld hx hb hX hbl hbA hS (by unfold vp_in; decide) dL_law_3989 ?_
      refine r_topi (v := xs 1) (congrArg xs (by decide)) ?_
      refine lv_aload_n hx hb dL_law_3990 rfl (lv_at hl 1 rfl) ?_
      refine lv_iload hx hb dL_law_3991 (lv_at hl 6 rfl) ?_
      refine lv_iconst (v := 2) hx hb dL_law_3993 (by decide) ?_
      refine lv_iadd hx hb dL_law_3994 ?_
      refine r_topi (v := 2) (by decide) ?_
      refine va_sld hx hb hX hbl hbA hS (by unfold vp_in; decide) dL_law_3995 ?_
      refine r_topi (v := xs 2) (congrArg xs (by decide)) ?_
      refine lv_aload_n hx hb dL_law_3996 rfl (lv_at hl 1 rfl) ?_
      refine lv_iload hx hb dL_law_3997 (lv_at hl 6 rfl) ?_
      refine lv_iconst (v := 3) hx hb dL_law_3999 (by decide) ?_
      refine lv_iadd hx hb dL_law_4000 ?_
      refine r_topi (v := 3) (by decide) ?_
      refine va_sld hx hb hX hbl hbA hS (by unfold vp_in; decide) dL_law_4001 ?_
      refine r_topi (v := xs 3) (congrArg xs (by decide)) ?_
      have hPc : va_P D vwCl [((a 200), f_m a g), ((a 207), .inr (5, [.int 0, .ref (g 100), .int 0]))] _ := hP.sub (ws' := [((a 200), f_m a g), ((a 207), .inr (5, [.int 0, .ref (g 100), .int 0]))]) [0, 1] rfl
      have hDc : va_D (fun q => z0 ≤ q) [((a 200), f_m a g), ((a 207), .inr (5, [.int 0, .ref (g 100), .int 0]))] := (hD.to hAz).pick (ws' := [((a 200), f_m a g), ((a 207), .inr (5, [.int 0, .ref (g 100), .int 0]))]) [0, 1] (by decide) rfl
      have hFc := va_free (wc := [((a 200), f_m a g), ((a 207), .inr (5, [.int 0, .ref (g 100), .int 0]))]) hD hS hA [0, 1] rfl
      refine va_calli (va_runV (As := [.int (xs 1), .int (xs 2), .int (xs 3)]) (rest := []) ⟨hx, hb, hml, hown, ht⟩ (k_X15_core l D g z0 _ a (xs 1) (xs 2) (xs 3)) (cwV 3 ht (gV w_1195 w_1197 w_1198 w_334 w_1196) rfl rfl rfl (by decide +kernel) (le2 rfl rfl)) ⟨PP.blind, va_recv hK.1 hP (ci := 21) (q0 := 0) rfl rfl, PP.mk' hK hZ hz hAz hS hPc hDc⟩ rfl rfl hl.1 rfl (lv_room (Nat.le_of_ble_eq_true rfl)) dL_law_4002 (le2 rfl rfl)) hS (fun q _ h => hFc q h) hFc (fun r u t H locs ht1 hvm hw hB hz1 hk1 hS => ?_)
      rcases hw with hw | hw
      · obtain ⟨rfl, rfl, hw⟩ := hw
        rcases hw with hw | hw | hw | hw | hw | hw
        · have c_65 := hw
          exact absurd c_65 c_62
        · obtain ⟨c_66, c_67⟩ := hw
          exact absurd (Int.le_trans (lo_lt c_67) (up_le c_63)) (by decide)
        · obtain ⟨c_68, c_69, c_70⟩ := hw
          obtain ⟨hP1, hD1⟩ := hB
          rw [ht1] at hP1
          obtain ⟨hP, hD⟩ := va_join (wr := [(o1, .inl (g 1, 1, .inr (.inl (fun _ => 0))))]) (w1 := [((a 200), .inr (21, [.int 1, .ref (a 201), .ref (a 202), .ref (a 203), .ref (a 204), .ref (a 205), .ref (a 206), .int 0, .int 0, .int 0, .int 0, .ref (a 208), .ref (a 209), .ref (a 210), .ref (a 211), .ref (a 212), .int 4, .int 12, .int (-1), .int 0, .ref (g 200), .ref (a 213), .int 0, .int 97, .ref (a 214), .ref (a 215), .ref (a 207), .null, .int 0]))]) hP hD [0, 1] [2] rfl rfl (by decide) (by decide) hk1 hFc hP1 hD1
          have hP : va_P D vwCl [(o1, .inl (g 1, 1, .inr (.inl (fun _ => 0)))), ((a 200), .inr (21, [.int 1, .ref (a 201), .ref (a 202), .ref (a 203), .ref (a 204), .ref (a 205), .ref (a 206), .int 0, .int 0, .int 0, .int 0, .ref (a 208), .ref (a 209), .ref (a 210), .ref (a 211), .ref (a 212), .int 4, .int 12, .int (-1), .int 0, .ref (g 200), .ref (a 213), .int 0, .int 97, .ref (a 214), .ref (a 215), .ref (a 207), .null, .int 0]))] H := hP
          have hD : va_D (va_A [] s.heap.size) [(o1, .inl (g 1, 1, .inr (.inl (fun _ => 0)))), ((a 200), .inr (21, [.int 1, .ref (a 201), .ref (a 202), .ref (a 203), .ref (a 204), .ref (a 205), .ref (a 206), .int 0, .int 0, .int 0, .int 0, .ref (a 208), .ref (a 209), .ref (a 210), .ref (a 211), .ref (a 212), .int 4, .int 12, .int (-1), .int 0, .ref (g 200), .ref (a 213), .int 0, .int 97, .ref (a 214), .ref (a 215), .ref (a 207), .null, .int 0]))] := hD
          refine lv_istore (lv' := [(7, .int 0), (6, .int 1), (0, .ref b), (1, .ref (a 0)), (2, .ref (a 200)), (3, .ref o1), (4, .ref o2), (5, .int 0)]) hx hb dL_law_4005 hl (by decide) rfl (fun ls hl => ?_)
          refine lv_aload_n hx hb dL_law_4007 rfl (lv_at hl 4 rfl) ?_
          have hPc : va_P D vwCl [((a 200), .inr (21, [.int 1, .ref (a 201), .ref (a 202), .ref (a 203), .ref (a 204), .ref (a 205), .ref (a 206), .int 0, .int 0, .int 0, .int 0, .ref (a 208), .ref (a 209), .ref (a 210), .ref (a 211), .ref (a 212), .int 4, .int 12, .int (-1), .int 0, .ref (g 200), .ref (a 213), .int 0, .int 97, .ref (a 214), .ref (a 215), .ref (a 207), .null, .int 0]))] _ := hP.sub (ws' := [((a 200), .inr (21, [.int 1, .ref (a 201), .ref (a 202), .ref (a 203), .ref (a 204), .ref (a 205), .ref (a 206), .int 0, .int 0, .int 0, .int 0, .ref (a 208), .ref (a 209), .ref (a 210), .ref (a 211), .ref (a 212), .int 4, .int 12, .int (-1), .int 0, .ref (g 200), .ref (a 213), .int 0, .int 97, .ref (a 214), .ref (a 215), .ref (a 207), .null, .int 0]))]) [1] rfl
          have hDc : va_D (fun q => z0 ≤ q) [((a 200), .inr (21, [.int 1, .ref (a 201), .ref (a 202), .ref (a 203), .ref (a 204), .ref (a 205), .ref (a 206), .int 0, .int 0, .int 0, .int 0, .ref (a 208), .ref (a 209), .ref (a 210), .ref (a 211), .ref (a 212), .int 4, .int 12, .int (-1), .int 0, .ref (g 200), .ref (a 213), .int 0, .int 97, .ref (a 214), .ref (a 215), .ref (a 207), .null, .int 0]))] := (hD.to hAz).pick (ws' := [((a 200), .inr (21, [.int 1, .ref (a 201), .ref (a 202), .ref (a 203), .ref (a 204), .ref (a 205), .ref (a 206), .int 0, .int 0, .int 0, .int 0, .ref (a 208), .ref (a 209), .ref (a 210), .ref (a 211), .ref (a 212), .int 4, .int 12, .int (-1), .int 0, .ref (g 200), .ref (a 213), .int 0, .int 97, .ref (a 214), .ref (a 215), .ref (a 207), .null, .int 0]))]) [1] (by decide) rfl
          have hFc := va_free (wc := [((a 200), .inr (21, [.int 1, .ref (a 201), .ref (a 202), .ref (a 203), .ref (a 204), .ref (a 205), .ref (a 206), .int 0, .int 0, .int 0, .int 0, .ref (a 208), .ref (a 209), .ref (a 210), .ref (a 211), .ref (a 212), .int 4, .int 12, .int (-1), .int 0, .ref (g 200), .ref (a 213), .int 0, .int 97, .ref (a 214), .ref (a 215), .ref (a 207), .null, .int 0]))]) hD hS hA [1] rfl
          refine va_calli (va_runV (As := []) (rest := []) ⟨hx, hb, hml, hown, ht⟩ (k_X15_thrown_v2 l D g z0 _ a) (cwV 0 ht (gV w_772 w_774 w_775 w_334 w_773) rfl rfl rfl (by decide +kernel) (le2 rfl rfl)) ⟨PP.blind, va_recv hK.1 hP (ci := 21) (q0 := 1) rfl rfl, PP.mk' hK hZ hz hAz hS hPc hDc⟩ rfl rfl hl.1 rfl (lv_room (Nat.le_of_ble_eq_true rfl)) dL_law_4008 (le2 rfl rfl)) hS (fun q _ h => hFc q h) hFc (fun r u t H locs ht1 hvm hw hB hz1 hk1 hS => ?_)
          obtain ⟨rfl, hw⟩ := hw
          obtain ⟨hP1, hD1⟩ := hB
          rw [ht1] at hP1
          obtain ⟨hP, hD⟩ := va_join (wr := [(o1, .inl (g 1, 1, .inr (.inl (fun _ => 0))))]) (w1 := [((a 200), .inr (21, [.int 1, .ref (a 201), .ref (a 202), .ref (a 203), .ref (a 204), .ref (a 205), .ref (a 206), .int 0, .int 0, .int 0, .int 0, .ref (a 208), .ref (a 209), .ref (a 210), .ref (a 211), .ref (a 212), .int 4, .int 12, .int (-1), .int 0, .ref (g 200), .ref (a 213), .int 0, .int 97, .ref (a 214), .ref (a 215), .ref (a 207), .null, .int 0]))]) hP hD [1] [0] rfl rfl (by decide) (by decide) hk1 hFc hP1 hD1
          have hP : va_P D vwCl [(o1, .inl (g 1, 1, .inr (.inl (fun _ => 0)))), ((a 200), .inr (21, [.int 1, .ref (a 201), .ref (a 202), .ref (a 203), .ref (a 204), .ref (a 205), .ref (a 206), .int 0, .int 0, .int 0, .int 0, .ref (a 208), .ref (a 209), .ref (a 210), .ref (a 211), .ref (a 212), .int 4, .int 12, .int (-1), .int 0, .ref (g 200), .ref (a 213), .int 0, .int 97, .ref (a 214), .ref (a 215), .ref (a 207), .null, .int 0]))] H := hP
          have hD : va_D (va_A [] s.heap.size) [(o1, .inl (g 1, 1, .inr (.inl (fun _ => 0)))), ((a 200), .inr (21, [.int 1, .ref (a 201), .ref (a 202), .ref (a 203), .ref (a 204), .ref (a 205), .ref (a 206), .int 0, .int 0, .int 0, .int 0, .ref (a 208), .ref (a 209), .ref (a 210), .ref (a 211), .ref (a 212), .int 4, .int 12, .int (-1), .int 0, .ref (g 200), .ref (a 213), .int 0, .int 97, .ref (a 214), .ref (a 215), .ref (a 207), .null, .int 0]))] := hD
          refine lv_iload hx hb dL_law_4011 (lv_at hl 1 rfl) ?_
          refine lv_icmp_eq (tgt := 4018) hx hb dL_law_4013 (by decide) (fun c_71 => ?_) (fun c_71 => ?_)
          · refine lv_iload hx hb dL_law_4018 (lv_at hl 1 rfl) ?_
            refine lv_if_ne (tgt := 4035) hx hb dL_law_4020 (by decide) (fun c_72 => ?_) (fun c_72 => ?_)
            · refine lv_goto (tgt := 4264) hx hb dL_law_4035 (by decide) ?_
              refine W.widen (k := 200 + 300) (n := 8000 + 2000) (Nat.le_of_ble_eq_true rfl) (Nat.le_of_ble_eq_true rfl) ?_
              exact kk _ _ _ hS (lv_sub hl [7, 2] rfl)
            · exact absurd c_72 (by decide)
          · exact absurd c_71 (by decide)
        · obtain ⟨c_73, c_74, c_75, c_76⟩ := hw
          exact absurd c_64 c_75
        · obtain ⟨c_77, c_78, c_79, c_80, c_81⟩ := hw
          exact absurd c_64 c_79
        · obtain ⟨c_82, c_83, c_84, c_85, c_86, c_87⟩ := hw
          exact absurd c_64 c_84
      · obtain ⟨rfl, rfl, hw⟩ := hw
        obtain ⟨c_88, c_89, c_90, c_91, c_92, c_93⟩ := hw
        exact absurd c_64 c_90
    · obtain ⟨c_94, c_95, c_96, c_97⟩ := hw
      obtain ⟨hP1, hD1⟩ := hB
      rw [ht1] at hP1
      obtain ⟨hP, hD⟩ := va_join (wr := [((a 200), f_m a g), ((a 207), .inr (5, [.int 0, .ref (g 100), .int 0]))]) (w1 := [(o1, .inl (g 1, 1, .inr (.inl (fun _ => 0))))]) hP hD [7, 0, 4, 1, 2, 3] [5, 6] rfl rfl (by decide) (by decide) hk1 hFc hP1 hD1
      have hP : va_P D vwCl [((a 200), f_m a g), ((a 207), .inr (5, [.int 0, .ref (g 100), .int 0])), (o1, .inl (g 1, 1, .inr (.inl (fun _ => 0))))] H := hP
      have hD : va_D (va_A [] s.heap.size) [((a 200), f_m a g), ((a 207), .inr (5, [.int 0, .ref (g 100), .int 0])), (o1, .inl (g 1, 1, .inr (.inl (fun _ => 0))))] := hD
      refine lv_istore (lv' := [(6, .int 1), (0, .ref b), (1, .ref (a 0)), (2, .ref (a 200)), (3, .ref o1), (4, .ref o2), (5, .int 0)]) hx hb dL_law_3981 hl (by decide) rfl (fun ls hl => ?_)
      refine lv_aload_n hx hb dL_law_3983 rfl (lv_at hl 3 rfl) ?_
      refine lv_aload_n hx hb dL_law_3984 rfl (lv_at hl 1 rfl) ?_
      refine lv_iload hx hb dL_law_3985 (lv_at hl 6 rfl) ?_
      refine lv_iconst (v := 1) hx hb dL_law_3987 (by decide) ?_
      refine lv_iadd hx hb dL_law_3988 ?_
      refine r_topi (v := 1) (by decide) ?_
      refine va_sld hx hb hX hbl hbA hS (by unfold vp_in; decide) dL_law_3989 ?_
      refine r_topi (v := xs 1) (congrArg xs (by decide)) ?_
      refine lv_aload_n hx hb dL_law_3990 rfl (lv_at hl 1 rfl) ?_
      refine lv_iload hx hb dL_law_3991 (lv_at hl 6 rfl) ?_
      refine lv_iconst (v := 2) hx hb dL_law_3993 (by decide) ?_
      refine lv_iadd hx hb dL_law_3994 ?_
      refine r_topi (v := 2) (by decide) ?_
      refine va_sld hx hb hX hbl hbA hS (by unfold vp_in; decide) dL_law_3995 ?_
      refine r_topi (v := xs 2) (congrArg xs (by decide)) ?_
      refine lv_aload_n hx hb dL_law_3996 rfl (lv_at hl 1 rfl) ?_
      refine lv_iload hx hb dL_law_3997 (lv_at hl 6 rfl) ?_
      refine lv_iconst (v := 3) hx hb dL_law_3999 (by decide) ?_
      refine lv_iadd hx hb dL_law_4000 ?_
      refine r_topi (v := 3) (by decide) ?_
      refine va_sld hx hb hX hbl hbA hS (by unfold vp_in; decide) dL_law_4001 ?_
      refine r_topi (v := xs 3) (congrArg xs (by decide)) ?_
      have hPc : va_P D vwCl [((a 200), f_m a g), ((a 207), .inr (5, [.int 0, .ref (g 100), .int 0]))] _ := hP.sub (ws' := [((a 200), f_m a g), ((a 207), .inr (5, [.int 0, .ref (g 100), .int 0]))]) [0, 1] rfl
      have hDc : va_D (fun q => z0 ≤ q) [((a 200), f_m a g), ((a 207), .inr (5, [.int 0, .ref (g 100), .int 0]))] := (hD.to hAz).pick (ws' := [((a 200), f_m a g), ((a 207), .inr (5, [.int 0, .ref (g 100), .int 0]))]) [0, 1] (by decide) rfl
      have hFc := va_free (wc := [((a 200), f_m a g), ((a 207), .inr (5, [.int 0, .ref (g 100), .int 0]))]) hD hS hA [0, 1] rfl
      refine va_calli (va_runV (As := [.int (xs 1), .int (xs 2), .int (xs 3)]) (rest := []) ⟨hx, hb, hml, hown, ht⟩ (k_X15_core l D g z0 _ a (xs 1) (xs 2) (xs 3)) (cwV 3 ht (gV w_1195 w_1197 w_1198 w_334 w_1196) rfl rfl rfl (by decide +kernel) (le2 rfl rfl)) ⟨PP.blind, va_recv hK.1 hP (ci := 21) (q0 := 0) rfl rfl, PP.mk' hK hZ hz hAz hS hPc hDc⟩ rfl rfl hl.1 rfl (lv_room (Nat.le_of_ble_eq_true rfl)) dL_law_4002 (le2 rfl rfl)) hS (fun q _ h => hFc q h) hFc (fun r u t H locs ht1 hvm hw hB hz1 hk1 hS => ?_)
      rcases hw with hw | hw
      · obtain ⟨rfl, rfl, hw⟩ := hw
        rcases hw with hw | hw | hw | hw | hw | hw
        · have c_98 := hw
          exact absurd c_98 c_94
        · obtain ⟨c_99, c_100⟩ := hw
          exact absurd (Int.le_trans (lo_lt c_100) (up_le c_95)) (by decide)
        · obtain ⟨c_101, c_102, c_103⟩ := hw
          exact absurd c_103 c_96
        · obtain ⟨c_104, c_105, c_106, c_107⟩ := hw
          obtain ⟨hP1, hD1⟩ := hB
          rw [ht1] at hP1
          obtain ⟨hP, hD⟩ := va_join (wr := [(o1, .inl (g 1, 1, .inr (.inl (fun _ => 0))))]) (w1 := [((a 200), .inr (21, [.int 1, .ref (a 201), .ref (a 202), .ref (a 203), .ref (a 204), .ref (a 205), .ref (a 206), .int 0, .int 0, .int 0, .int 0, .ref (a 208), .ref (a 209), .ref (a 210), .ref (a 211), .ref (a 212), .int 4, .int 12, .int (-1), .int 0, .ref (g 200), .ref (a 213), .int 0, .int 97, .ref (a 214), .ref (a 215), .ref (a 207), .null, .int 0]))]) hP hD [0, 1] [2] rfl rfl (by decide) (by decide) hk1 hFc hP1 hD1
          have hP : va_P D vwCl [(o1, .inl (g 1, 1, .inr (.inl (fun _ => 0)))), ((a 200), .inr (21, [.int 1, .ref (a 201), .ref (a 202), .ref (a 203), .ref (a 204), .ref (a 205), .ref (a 206), .int 0, .int 0, .int 0, .int 0, .ref (a 208), .ref (a 209), .ref (a 210), .ref (a 211), .ref (a 212), .int 4, .int 12, .int (-1), .int 0, .ref (g 200), .ref (a 213), .int 0, .int 97, .ref (a 214), .ref (a 215), .ref (a 207), .null, .int 0]))] H := hP
          have hD : va_D (va_A [] s.heap.size) [(o1, .inl (g 1, 1, .inr (.inl (fun _ => 0)))), ((a 200), .inr (21, [.int 1, .ref (a 201), .ref (a 202), .ref (a 203), .ref (a 204), .ref (a 205), .ref (a 206), .int 0, .int 0, .int 0, .int 0, .ref (a 208), .ref (a 209), .ref (a 210), .ref (a 211), .ref (a 212), .int 4, .int 12, .int (-1), .int 0, .ref (g 200), .ref (a 213), .int 0, .int 97, .ref (a 214), .ref (a 215), .ref (a 207), .null, .int 0]))] := hD
          refine lv_istore (lv' := [(7, .int 0), (6, .int 1), (0, .ref b), (1, .ref (a 0)), (2, .ref (a 200)), (3, .ref o1), (4, .ref o2), (5, .int 0)]) hx hb dL_law_4005 hl (by decide) rfl (fun ls hl => ?_)
          refine lv_aload_n hx hb dL_law_4007 rfl (lv_at hl 4 rfl) ?_
          have hPc : va_P D vwCl [((a 200), .inr (21, [.int 1, .ref (a 201), .ref (a 202), .ref (a 203), .ref (a 204), .ref (a 205), .ref (a 206), .int 0, .int 0, .int 0, .int 0, .ref (a 208), .ref (a 209), .ref (a 210), .ref (a 211), .ref (a 212), .int 4, .int 12, .int (-1), .int 0, .ref (g 200), .ref (a 213), .int 0, .int 97, .ref (a 214), .ref (a 215), .ref (a 207), .null, .int 0]))] _ := hP.sub (ws' := [((a 200), .inr (21, [.int 1, .ref (a 201), .ref (a 202), .ref (a 203), .ref (a 204), .ref (a 205), .ref (a 206), .int 0, .int 0, .int 0, .int 0, .ref (a 208), .ref (a 209), .ref (a 210), .ref (a 211), .ref (a 212), .int 4, .int 12, .int (-1), .int 0, .ref (g 200), .ref (a 213), .int 0, .int 97, .ref (a 214), .ref (a 215), .ref (a 207), .null, .int 0]))]) [1] rfl
          have hDc : va_D (fun q => z0 ≤ q) [((a 200), .inr (21, [.int 1, .ref (a 201), .ref (a 202), .ref (a 203), .ref (a 204), .ref (a 205), .ref (a 206), .int 0, .int 0, .int 0, .int 0, .ref (a 208), .ref (a 209), .ref (a 210), .ref (a 211), .ref (a 212), .int 4, .int 12, .int (-1), .int 0, .ref (g 200), .ref (a 213), .int 0, .int 97, .ref (a 214), .ref (a 215), .ref (a 207), .null, .int 0]))] := (hD.to hAz).pick (ws' := [((a 200), .inr (21, [.int 1, .ref (a 201), .ref (a 202), .ref (a 203), .ref (a 204), .ref (a 205), .ref (a 206), .int 0, .int 0, .int 0, .int 0, .ref (a 208), .ref (a 209), .ref (a 210), .ref (a 211), .ref (a 212), .int 4, .int 12, .int (-1), .int 0, .ref (g 200), .ref (a 213), .int 0, .int 97, .ref (a 214), .ref (a 215), .ref (a 207), .null, .int 0]))]) [1] (by decide) rfl
          have hFc := va_free (wc := [((a 200), .inr (21, [.int 1, .ref (a 201), .ref (a 202), .ref (a 203), .ref (a 204), .ref (a 205), .ref (a 206), .int 0, .int 0, .int 0, .int 0, .ref (a 208), .ref (a 209), .ref (a 210), .ref (a 211), .ref (a 212), .int 4, .int 12, .int (-1), .int 0, .ref (g 200), .ref (a 213), .int 0, .int 97, .ref (a 214), .ref (a 215), .ref (a 207), .null, .int 0]))]) hD hS hA [1] rfl
          refine va_calli (va_runV (As := []) (rest := []) ⟨hx, hb, hml, hown, ht⟩ (k_X15_thrown_v2 l D g z0 _ a) (cwV 0 ht (gV w_772 w_774 w_775 w_334 w_773) rfl rfl rfl (by decide +kernel) (le2 rfl rfl)) ⟨PP.blind, va_recv hK.1 hP (ci := 21) (q0 := 1) rfl rfl, PP.mk' hK hZ hz hAz hS hPc hDc⟩ rfl rfl hl.1 rfl (lv_room (Nat.le_of_ble_eq_true rfl)) dL_law_4008 (le2 rfl rfl)) hS (fun q _ h => hFc q h) hFc (fun r u t H locs ht1 hvm hw hB hz1 hk1 hS => ?_)
          obtain ⟨rfl, hw⟩ := hw
          obtain ⟨hP1, hD1⟩ := hB
          rw [ht1] at hP1
          obtain ⟨hP, hD⟩ := va_join (wr := [(o1, .inl (g 1, 1, .inr (.inl (fun _ => 0))))]) (w1 := [((a 200), .inr (21, [.int 1, .ref (a 201), .ref (a 202), .ref (a 203), .ref (a 204), .ref (a 205), .ref (a 206), .int 0, .int 0, .int 0, .int 0, .ref (a 208), .ref (a 209), .ref (a 210), .ref (a 211), .ref (a 212), .int 4, .int 12, .int (-1), .int 0, .ref (g 200), .ref (a 213), .int 0, .int 97, .ref (a 214), .ref (a 215), .ref (a 207), .null, .int 0]))]) hP hD [1] [0] rfl rfl (by decide) (by decide) hk1 hFc hP1 hD1
          have hP : va_P D vwCl [(o1, .inl (g 1, 1, .inr (.inl (fun _ => 0)))), ((a 200), .inr (21, [.int 1, .ref (a 201), .ref (a 202), .ref (a 203), .ref (a 204), .ref (a 205), .ref (a 206), .int 0, .int 0, .int 0, .int 0, .ref (a 208), .ref (a 209), .ref (a 210), .ref (a 211), .ref (a 212), .int 4, .int 12, .int (-1), .int 0, .ref (g 200), .ref (a 213), .int 0, .int 97, .ref (a 214), .ref (a 215), .ref (a 207), .null, .int 0]))] H := hP
          have hD : va_D (va_A [] s.heap.size) [(o1, .inl (g 1, 1, .inr (.inl (fun _ => 0)))), ((a 200), .inr (21, [.int 1, .ref (a 201), .ref (a 202), .ref (a 203), .ref (a 204), .ref (a 205), .ref (a 206), .int 0, .int 0, .int 0, .int 0, .ref (a 208), .ref (a 209), .ref (a 210), .ref (a 211), .ref (a 212), .int 4, .int 12, .int (-1), .int 0, .ref (g 200), .ref (a 213), .int 0, .int 97, .ref (a 214), .ref (a 215), .ref (a 207), .null, .int 0]))] := hD
          refine lv_iload hx hb dL_law_4011 (lv_at hl 1 rfl) ?_
          refine lv_icmp_eq (tgt := 4018) hx hb dL_law_4013 (by decide) (fun c_108 => ?_) (fun c_108 => ?_)
          · refine lv_iload hx hb dL_law_4018 (lv_at hl 1 rfl) ?_
            refine lv_if_ne (tgt := 4035) hx hb dL_law_4020 (by decide) (fun c_109 => ?_) (fun c_109 => ?_)
            · refine lv_goto (tgt := 4264) hx hb dL_law_4035 (by decide) ?_
              refine W.widen (k := 200 + 300) (n := 8000 + 2000) (Nat.le_of_ble_eq_true rfl) (Nat.le_of_ble_eq_true rfl) ?_
              exact kk _ _ _ hS (lv_sub hl [7, 2] rfl)
            · exact absurd c_109 (by decide)
          · exact absurd c_108 (by decide)
        · obtain ⟨c_110, c_111, c_112, c_113, c_114⟩ := hw
          exact absurd (Int.le_trans (lo_nle c_97) (up_nlt c_113)) (by decide)
        · obtain ⟨c_115, c_116, c_117, c_118, c_119, c_120⟩ := hw
          exact absurd (Int.le_trans (lo_nle c_97) (up_nlt c_118)) (by decide)
      · obtain ⟨rfl, rfl, hw⟩ := hw
        obtain ⟨c_121, c_122, c_123, c_124, c_125, c_126⟩ := hw
        exact absurd (Int.le_trans (lo_nle c_97) (up_nlt c_124)) (by decide)
    · obtain ⟨c_127, c_128, c_129, c_130, c_131⟩ := hw
      obtain ⟨hP1, hD1⟩ := hB
      rw [ht1] at hP1
      obtain ⟨hP, hD⟩ := va_join (wr := [((a 200), f_m a g), ((a 207), .inr (5, [.int 0, .ref (g 100), .int 0]))]) (w1 := [(o1, .inl (g 1, 1, .inr (.inl (fun _ => 0))))]) hP hD [7, 0, 4, 1, 2, 3] [5, 6] rfl rfl (by decide) (by decide) hk1 hFc hP1 hD1
      have hP : va_P D vwCl [((a 200), f_m a g), ((a 207), .inr (5, [.int 0, .ref (g 100), .int 0])), (o1, .inl (g 1, 1, .inr (.inl (fun _ => 0))))] H := hP
      have hD : va_D (va_A [] s.heap.size) [((a 200), f_m a g), ((a 207), .inr (5, [.int 0, .ref (g 100), .int 0])), (o1, .inl (g 1, 1, .inr (.inl (fun _ => 0))))] := hD
      refine lv_istore (lv' := [(6, .int 1), (0, .ref b), (1, .ref (a 0)), (2, .ref (a 200)), (3, .ref o1), (4, .ref o2), (5, .int 0)]) hx hb dL_law_3981 hl (by decide) rfl (fun ls hl => ?_)
      refine lv_aload_n hx hb dL_law_3983 rfl (lv_at hl 3 rfl) ?_
      refine lv_aload_n hx hb dL_law_3984 rfl (lv_at hl 1 rfl) ?_
      refine lv_iload hx hb dL_law_3985 (lv_at hl 6 rfl) ?_
      refine lv_iconst (v := 1) hx hb dL_law_3987 (by decide) ?_
      refine lv_iadd hx hb dL_law_3988 ?_
      refine r_topi (v := 1) (by decide) ?_
      refine va_sld hx hb hX hbl hbA hS (by unfold vp_in; decide) dL_law_3989 ?_
      refine r_topi (v := xs 1) (congrArg xs (by decide)) ?_
      refine lv_aload_n hx hb dL_law_3990 rfl (lv_at hl 1 rfl) ?_
      refine lv_iload hx hb dL_law_3991 (lv_at hl 6 rfl) ?_
      refine lv_iconst (v := 2) hx hb dL_law_3993 (by decide) ?_
      refine lv_iadd hx hb dL_law_3994 ?_
      refine r_topi (v := 2) (by decide) ?_
      refine va_sld hx hb hX hbl hbA hS (by unfold vp_in; decide) dL_law_3995 ?_
      refine r_topi (v := xs 2) (congrArg xs (by decide)) ?_
      refine lv_aload_n hx hb dL_law_3996 rfl (lv_at hl 1 rfl) ?_
      refine lv_iload hx hb dL_law_3997 (lv_at hl 6 rfl) ?_
      refine lv_iconst (v := 3) hx hb dL_law_3999 (by decide) ?_
      refine lv_iadd hx hb dL_law_4000 ?_
      refine r_topi (v := 3) (by decide) ?_
      refine va_sld hx hb hX hbl hbA hS (by unfold vp_in; decide) dL_law_4001 ?_
      refine r_topi (v := xs 3) (congrArg xs (by decide)) ?_
      have hPc : va_P D vwCl [((a 200), f_m a g), ((a 207), .inr (5, [.int 0, .ref (g 100), .int 0]))] _ := hP.sub (ws' := [((a 200), f_m a g), ((a 207), .inr (5, [.int 0, .ref (g 100), .int 0]))]) [0, 1] rfl
      have hDc : va_D (fun q => z0 ≤ q) [((a 200), f_m a g), ((a 207), .inr (5, [.int 0, .ref (g 100), .int 0]))] := (hD.to hAz).pick (ws' := [((a 200), f_m a g), ((a 207), .inr (5, [.int 0, .ref (g 100), .int 0]))]) [0, 1] (by decide) rfl
      have hFc := va_free (wc := [((a 200), f_m a g), ((a 207), .inr (5, [.int 0, .ref (g 100), .int 0]))]) hD hS hA [0, 1] rfl
      refine va_calli (va_runV (As := [.int (xs 1), .int (xs 2), .int (xs 3)]) (rest := []) ⟨hx, hb, hml, hown, ht⟩ (k_X15_core l D g z0 _ a (xs 1) (xs 2) (xs 3)) (cwV 3 ht (gV w_1195 w_1197 w_1198 w_334 w_1196) rfl rfl rfl (by decide +kernel) (le2 rfl rfl)) ⟨PP.blind, va_recv hK.1 hP (ci := 21) (q0 := 0) rfl rfl, PP.mk' hK hZ hz hAz hS hPc hDc⟩ rfl rfl hl.1 rfl (lv_room (Nat.le_of_ble_eq_true rfl)) dL_law_4002 (le2 rfl rfl)) hS (fun q _ h => hFc q h) hFc (fun r u t H locs ht1 hvm hw hB hz1 hk1 hS => ?_)
      rcases hw with hw | hw
      · obtain ⟨rfl, rfl, hw⟩ := hw
        rcases hw with hw | hw | hw | hw | hw | hw
        · have c_132 := hw
          exact absurd c_132 c_127
        · obtain ⟨c_133, c_134⟩ := hw
          exact absurd (Int.le_trans (lo_lt c_134) (up_le c_128)) (by decide)
        · obtain ⟨c_135, c_136, c_137⟩ := hw
          exact absurd c_137 c_129
        · obtain ⟨c_138, c_139, c_140, c_141⟩ := hw
          exact absurd (Int.le_trans (lo_lt c_141) (up_le c_130)) (by decide)
        · obtain ⟨c_142, c_143, c_144, c_145, c_146⟩ := hw
          obtain ⟨hP1, hD1⟩ := hB
          rw [ht1] at hP1
          obtain ⟨hP, hD⟩ := va_join (wr := [(o1, .inl (g 1, 1, .inr (.inl (fun _ => 0))))]) (w1 := [((a 200), .inr (21, [.int 1, .ref (a 201), .ref (a 202), .ref (a 203), .ref (a 204), .ref (a 205), .ref (a 206), .int 0, .int 0, .int 0, .int 0, .ref (a 208), .ref (a 209), .ref (a 210), .ref (a 211), .ref (a 212), .int 4, .int 12, .int (-1), .int 0, .ref (g 200), .ref (a 213), .int 0, .int 97, .ref (a 214), .ref (a 215), .ref (a 207), .null, .int 0]))]) hP hD [0, 1] [2] rfl rfl (by decide) (by decide) hk1 hFc hP1 hD1
          have hP : va_P D vwCl [(o1, .inl (g 1, 1, .inr (.inl (fun _ => 0)))), ((a 200), .inr (21, [.int 1, .ref (a 201), .ref (a 202), .ref (a 203), .ref (a 204), .ref (a 205), .ref (a 206), .int 0, .int 0, .int 0, .int 0, .ref (a 208), .ref (a 209), .ref (a 210), .ref (a 211), .ref (a 212), .int 4, .int 12, .int (-1), .int 0, .ref (g 200), .ref (a 213), .int 0, .int 97, .ref (a 214), .ref (a 215), .ref (a 207), .null, .int 0]))] H := hP
          have hD : va_D (va_A [] s.heap.size) [(o1, .inl (g 1, 1, .inr (.inl (fun _ => 0)))), ((a 200), .inr (21, [.int 1, .ref (a 201), .ref (a 202), .ref (a 203), .ref (a 204), .ref (a 205), .ref (a 206), .int 0, .int 0, .int 0, .int 0, .ref (a 208), .ref (a 209), .ref (a 210), .ref (a 211), .ref (a 212), .int 4, .int 12, .int (-1), .int 0, .ref (g 200), .ref (a 213), .int 0, .int 97, .ref (a 214), .ref (a 215), .ref (a 207), .null, .int 0]))] := hD
          refine lv_istore (lv' := [(7, .int 0), (6, .int 1), (0, .ref b), (1, .ref (a 0)), (2, .ref (a 200)), (3, .ref o1), (4, .ref o2), (5, .int 0)]) hx hb dL_law_4005 hl (by decide) rfl (fun ls hl => ?_)
          refine lv_aload_n hx hb dL_law_4007 rfl (lv_at hl 4 rfl) ?_
          have hPc : va_P D vwCl [((a 200), .inr (21, [.int 1, .ref (a 201), .ref (a 202), .ref (a 203), .ref (a 204), .ref (a 205), .ref (a 206), .int 0, .int 0, .int 0, .int 0, .ref (a 208), .ref (a 209), .ref (a 210), .ref (a 211), .ref (a 212), .int 4, .int 12, .int (-1), .int 0, .ref (g 200), .ref (a 213), .int 0, .int 97, .ref (a 214), .ref (a 215), .ref (a 207), .null, .int 0]))] _ := hP.sub (ws' := [((a 200), .inr (21, [.int 1, .ref (a 201), .ref (a 202), .ref (a 203), .ref (a 204), .ref (a 205), .ref (a 206), .int 0, .int 0, .int 0, .int 0, .ref (a 208), .ref (a 209), .ref (a 210), .ref (a 211), .ref (a 212), .int 4, .int 12, .int (-1), .int 0, .ref (g 200), .ref (a 213), .int 0, .int 97, .ref (a 214), .ref (a 215), .ref (a 207), .null, .int 0]))]) [1] rfl
          have hDc : va_D (fun q => z0 ≤ q) [((a 200), .inr (21, [.int 1, .ref (a 201), .ref (a 202), .ref (a 203), .ref (a 204), .ref (a 205), .ref (a 206), .int 0, .int 0, .int 0, .int 0, .ref (a 208), .ref (a 209), .ref (a 210), .ref (a 211), .ref (a 212), .int 4, .int 12, .int (-1), .int 0, .ref (g 200), .ref (a 213), .int 0, .int 97, .ref (a 214), .ref (a 215), .ref (a 207), .null, .int 0]))] := (hD.to hAz).pick (ws' := [((a 200), .inr (21, [.int 1, .ref (a 201), .ref (a 202), .ref (a 203), .ref (a 204), .ref (a 205), .ref (a 206), .int 0, .int 0, .int 0, .int 0, .ref (a 208), .ref (a 209), .ref (a 210), .ref (a 211), .ref (a 212), .int 4, .int 12, .int (-1), .int 0, .ref (g 200), .ref (a 213), .int 0, .int 97, .ref (a 214), .ref (a 215), .ref (a 207), .null, .int 0]))]) [1] (by decide) rfl
          have hFc := va_free (wc := [((a 200), .inr (21, [.int 1, .ref (a 201), .ref (a 202), .ref (a 203), .ref (a 204), .ref (a 205), .ref (a 206), .int 0, .int 0, .int 0, .int 0, .ref (a 208), .ref (a 209), .ref (a 210), .ref (a 211), .ref (a 212), .int 4, .int 12, .int (-1), .int 0, .ref (g 200), .ref (a 213), .int 0, .int 97, .ref (a 214), .ref (a 215), .ref (a 207), .null, .int 0]))]) hD hS hA [1] rfl
          refine va_calli (va_runV (As := []) (rest := []) ⟨hx, hb, hml, hown, ht⟩ (k_X15_thrown_v2 l D g z0 _ a) (cwV 0 ht (gV w_772 w_774 w_775 w_334 w_773) rfl rfl rfl (by decide +kernel) (le2 rfl rfl)) ⟨PP.blind, va_recv hK.1 hP (ci := 21) (q0 := 1) rfl rfl, PP.mk' hK hZ hz hAz hS hPc hDc⟩ rfl rfl hl.1 rfl (lv_room (Nat.le_of_ble_eq_true rfl)) dL_law_4008 (le2 rfl rfl)) hS (fun q _ h => hFc q h) hFc (fun r u t H locs ht1 hvm hw hB hz1 hk1 hS => ?_)
          obtain ⟨rfl, hw⟩ := hw
          obtain ⟨hP1, hD1⟩ := hB
          rw [ht1] at hP1
          obtain ⟨hP, hD⟩ := va_join (wr := [(o1, .inl (g 1, 1, .inr (.inl (fun _ => 0))))]) (w1 := [((a 200), .inr (21, [.int 1, .ref (a 201), .ref (a 202), .ref (a 203), .ref (a 204), .ref (a 205), .ref (a 206), .int 0, .int 0, .int 0, .int 0, .ref (a 208), .ref (a 209), .ref (a 210), .ref (a 211), .ref (a 212), .int 4, .int 12, .int (-1), .int 0, .ref (g 200), .ref (a 213), .int 0, .int 97, .ref (a 214), .ref (a 215), .ref (a 207), .null, .int 0]))]) hP hD [1] [0] rfl rfl (by decide) (by decide) hk1 hFc hP1 hD1
          have hP : va_P D vwCl [(o1, .inl (g 1, 1, .inr (.inl (fun _ => 0)))), ((a 200), .inr (21, [.int 1, .ref (a 201), .ref (a 202), .ref (a 203), .ref (a 204), .ref (a 205), .ref (a 206), .int 0, .int 0, .int 0, .int 0, .ref (a 208), .ref (a 209), .ref (a 210), .ref (a 211), .ref (a 212), .int 4, .int 12, .int (-1), .int 0, .ref (g 200), .ref (a 213), .int 0, .int 97, .ref (a 214), .ref (a 215), .ref (a 207), .null, .int 0]))] H := hP
          have hD : va_D (va_A [] s.heap.size) [(o1, .inl (g 1, 1, .inr (.inl (fun _ => 0)))), ((a 200), .inr (21, [.int 1, .ref (a 201), .ref (a 202), .ref (a 203), .ref (a 204), .ref (a 205), .ref (a 206), .int 0, .int 0, .int 0, .int 0, .ref (a 208), .ref (a 209), .ref (a 210), .ref (a 211), .ref (a 212), .int 4, .int 12, .int (-1), .int 0, .ref (g 200), .ref (a 213), .int 0, .int 97, .ref (a 214), .ref (a 215), .ref (a 207), .null, .int 0]))] := hD
          refine lv_iload hx hb dL_law_4011 (lv_at hl 1 rfl) ?_
          refine lv_icmp_eq (tgt := 4018) hx hb dL_law_4013 (by decide) (fun c_147 => ?_) (fun c_147 => ?_)
          · refine lv_iload hx hb dL_law_4018 (lv_at hl 1 rfl) ?_
            refine lv_if_ne (tgt := 4035) hx hb dL_law_4020 (by decide) (fun c_148 => ?_) (fun c_148 => ?_)
            · refine lv_goto (tgt := 4264) hx hb dL_law_4035 (by decide) ?_
              refine W.widen (k := 200 + 300) (n := 8000 + 2000) (Nat.le_of_ble_eq_true rfl) (Nat.le_of_ble_eq_true rfl) ?_
              exact kk _ _ _ hS (lv_sub hl [7, 2] rfl)
            · exact absurd c_148 (by decide)
          · exact absurd c_147 (by decide)
        · obtain ⟨c_149, c_150, c_151, c_152, c_153, c_154⟩ := hw
          exact absurd c_131 c_153
      · obtain ⟨rfl, rfl, hw⟩ := hw
        obtain ⟨c_155, c_156, c_157, c_158, c_159, c_160⟩ := hw
        exact absurd c_131 c_159
    · obtain ⟨c_161, c_162, c_163, c_164, c_165, c_166⟩ := hw
      obtain ⟨hP1, hD1⟩ := hB
      rw [ht1] at hP1
      obtain ⟨hP, hD⟩ := va_join (wr := [((a 200), f_m a g), ((a 207), .inr (5, [.int 0, .ref (g 100), .int 0]))]) (w1 := [(o1, .inl (g 1, 1, .inr (.inl (fun _ => 0))))]) hP hD [7, 0, 4, 1, 2, 3] [5, 6] rfl rfl (by decide) (by decide) hk1 hFc hP1 hD1
      have hP : va_P D vwCl [((a 200), f_m a g), ((a 207), .inr (5, [.int 0, .ref (g 100), .int 0])), (o1, .inl (g 1, 1, .inr (.inl (fun _ => 0))))] H := hP
      have hD : va_D (va_A [] s.heap.size) [((a 200), f_m a g), ((a 207), .inr (5, [.int 0, .ref (g 100), .int 0])), (o1, .inl (g 1, 1, .inr (.inl (fun _ => 0))))] := hD
      refine lv_istore (lv' := [(6, .int 1), (0, .ref b), (1, .ref (a 0)), (2, .ref (a 200)), (3, .ref o1), (4, .ref o2), (5, .int 0)]) hx hb dL_law_3981 hl (by decide) rfl (fun ls hl => ?_)
      refine lv_aload_n hx hb dL_law_3983 rfl (lv_at hl 3 rfl) ?_
      refine lv_aload_n hx hb dL_law_3984 rfl (lv_at hl 1 rfl) ?_
      refine lv_iload hx hb dL_law_3985 (lv_at hl 6 rfl) ?_
      refine lv_iconst (v := 1) hx hb dL_law_3987 (by decide) ?_
      refine lv_iadd hx hb dL_law_3988 ?_
      refine r_topi (v := 1) (by decide) ?_
      refine va_sld hx hb hX hbl hbA hS (by unfold vp_in; decide) dL_law_3989 ?_
      refine r_topi (v := xs 1) (congrArg xs (by decide)) ?_
      refine lv_aload_n hx hb dL_law_3990 rfl (lv_at hl 1 rfl) ?_
      refine lv_iload hx hb dL_law_3991 (lv_at hl 6 rfl) ?_
      refine lv_iconst (v := 2) hx hb dL_law_3993 (by decide) ?_
      refine lv_iadd hx hb dL_law_3994 ?_
      refine r_topi (v := 2) (by decide) ?_
      refine va_sld hx hb hX hbl hbA hS (by unfold vp_in; decide) dL_law_3995 ?_
      refine r_topi (v := xs 2) (congrArg xs (by decide)) ?_
      refine lv_aload_n hx hb dL_law_3996 rfl (lv_at hl 1 rfl) ?_
      refine lv_iload hx hb dL_law_3997 (lv_at hl 6 rfl) ?_
      refine lv_iconst (v := 3) hx hb dL_law_3999 (by decide) ?_
      refine lv_iadd hx hb dL_law_4000 ?_
      refine r_topi (v := 3) (by decide) ?_
      refine va_sld hx hb hX hbl hbA hS (by unfold vp_in; decide) dL_law_4001 ?_
      refine r_topi (v := xs 3) (congrArg xs (by decide)) ?_
      have hPc : va_P D vwCl [((a 200), f_m a g), ((a 207), .inr (5, [.int 0, .ref (g 100), .int 0]))] _ := hP.sub (ws' := [((a 200), f_m a g), ((a 207), .inr (5, [.int 0, .ref (g 100), .int 0]))]) [0, 1] rfl
      have hDc : va_D (fun q => z0 ≤ q) [((a 200), f_m a g), ((a 207), .inr (5, [.int 0, .ref (g 100), .int 0]))] := (hD.to hAz).pick (ws' := [((a 200), f_m a g), ((a 207), .inr (5, [.int 0, .ref (g 100), .int 0]))]) [0, 1] (by decide) rfl
      have hFc := va_free (wc := [((a 200), f_m a g), ((a 207), .inr (5, [.int 0, .ref (g 100), .int 0]))]) hD hS hA [0, 1] rfl
      refine va_calli (va_runV (As := [.int (xs 1), .int (xs 2), .int (xs 3)]) (rest := []) ⟨hx, hb, hml, hown, ht⟩ (k_X15_core l D g z0 _ a (xs 1) (xs 2) (xs 3)) (cwV 3 ht (gV w_1195 w_1197 w_1198 w_334 w_1196) rfl rfl rfl (by decide +kernel) (le2 rfl rfl)) ⟨PP.blind, va_recv hK.1 hP (ci := 21) (q0 := 0) rfl rfl, PP.mk' hK hZ hz hAz hS hPc hDc⟩ rfl rfl hl.1 rfl (lv_room (Nat.le_of_ble_eq_true rfl)) dL_law_4002 (le2 rfl rfl)) hS (fun q _ h => hFc q h) hFc (fun r u t H locs ht1 hvm hw hB hz1 hk1 hS => ?_)
      rcases hw with hw | hw
      · obtain ⟨rfl, rfl, hw⟩ := hw
        rcases hw with hw | hw | hw | hw | hw | hw
        · have c_167 := hw
          exact absurd c_167 c_161
        · obtain ⟨c_168, c_169⟩ := hw
          exact absurd (Int.le_trans (lo_lt c_169) (up_le c_162)) (by decide)
        · obtain ⟨c_170, c_171, c_172⟩ := hw
          exact absurd c_172 c_163
        · obtain ⟨c_173, c_174, c_175, c_176⟩ := hw
          exact absurd (Int.le_trans (lo_lt c_176) (up_le c_164)) (by decide)
        · obtain ⟨c_177, c_178, c_179, c_180, c_181⟩ := hw
          exact absurd c_181 c_165
        · obtain ⟨c_182, c_183, c_184, c_185, c_186, c_187⟩ := hw
          obtain ⟨hP1, hD1⟩ := hB
          rw [ht1] at hP1
          obtain ⟨hP, hD⟩ := va_join (wr := [(o1, .inl (g 1, 1, .inr (.inl (fun _ => 0))))]) (w1 := [((a 200), .inr (21, [.int 1, .ref (a 201), .ref (a 202), .ref (a 203), .ref (a 204), .ref (a 205), .ref (a 206), .int 0, .int 0, .int 0, .int 0, .ref (a 208), .ref (a 209), .ref (a 210), .ref (a 211), .ref (a 212), .int 4, .int 12, .int (-1), .int 0, .ref (g 200), .ref (a 213), .int 0, .int 97, .ref (a 214), .ref (a 215), .ref (a 207), .null, .int 0]))]) hP hD [0, 1] [2] rfl rfl (by decide) (by decide) hk1 hFc hP1 hD1
          have hP : va_P D vwCl [(o1, .inl (g 1, 1, .inr (.inl (fun _ => 0)))), ((a 200), .inr (21, [.int 1, .ref (a 201), .ref (a 202), .ref (a 203), .ref (a 204), .ref (a 205), .ref (a 206), .int 0, .int 0, .int 0, .int 0, .ref (a 208), .ref (a 209), .ref (a 210), .ref (a 211), .ref (a 212), .int 4, .int 12, .int (-1), .int 0, .ref (g 200), .ref (a 213), .int 0, .int 97, .ref (a 214), .ref (a 215), .ref (a 207), .null, .int 0]))] H := hP
          have hD : va_D (va_A [] s.heap.size) [(o1, .inl (g 1, 1, .inr (.inl (fun _ => 0)))), ((a 200), .inr (21, [.int 1, .ref (a 201), .ref (a 202), .ref (a 203), .ref (a 204), .ref (a 205), .ref (a 206), .int 0, .int 0, .int 0, .int 0, .ref (a 208), .ref (a 209), .ref (a 210), .ref (a 211), .ref (a 212), .int 4, .int 12, .int (-1), .int 0, .ref (g 200), .ref (a 213), .int 0, .int 97, .ref (a 214), .ref (a 215), .ref (a 207), .null, .int 0]))] := hD
          refine lv_istore (lv' := [(7, .int 0), (6, .int 1), (0, .ref b), (1, .ref (a 0)), (2, .ref (a 200)), (3, .ref o1), (4, .ref o2), (5, .int 0)]) hx hb dL_law_4005 hl (by decide) rfl (fun ls hl => ?_)
          refine lv_aload_n hx hb dL_law_4007 rfl (lv_at hl 4 rfl) ?_
          have hPc : va_P D vwCl [((a 200), .inr (21, [.int 1, .ref (a 201), .ref (a 202), .ref (a 203), .ref (a 204), .ref (a 205), .ref (a 206), .int 0, .int 0, .int 0, .int 0, .ref (a 208), .ref (a 209), .ref (a 210), .ref (a 211), .ref (a 212), .int 4, .int 12, .int (-1), .int 0, .ref (g 200), .ref (a 213), .int 0, .int 97, .ref (a 214), .ref (a 215), .ref (a 207), .null, .int 0]))] _ := hP.sub (ws' := [((a 200), .inr (21, [.int 1, .ref (a 201), .ref (a 202), .ref (a 203), .ref (a 204), .ref (a 205), .ref (a 206), .int 0, .int 0, .int 0, .int 0, .ref (a 208), .ref (a 209), .ref (a 210), .ref (a 211), .ref (a 212), .int 4, .int 12, .int (-1), .int 0, .ref (g 200), .ref (a 213), .int 0, .int 97, .ref (a 214), .ref (a 215), .ref (a 207), .null, .int 0]))]) [1] rfl
          have hDc : va_D (fun q => z0 ≤ q) [((a 200), .inr (21, [.int 1, .ref (a 201), .ref (a 202), .ref (a 203), .ref (a 204), .ref (a 205), .ref (a 206), .int 0, .int 0, .int 0, .int 0, .ref (a 208), .ref (a 209), .ref (a 210), .ref (a 211), .ref (a 212), .int 4, .int 12, .int (-1), .int 0, .ref (g 200), .ref (a 213), .int 0, .int 97, .ref (a 214), .ref (a 215), .ref (a 207), .null, .int 0]))] := (hD.to hAz).pick (ws' := [((a 200), .inr (21, [.int 1, .ref (a 201), .ref (a 202), .ref (a 203), .ref (a 204), .ref (a 205), .ref (a 206), .int 0, .int 0, .int 0, .int 0, .ref (a 208), .ref (a 209), .ref (a 210), .ref (a 211), .ref (a 212), .int 4, .int 12, .int (-1), .int 0, .ref (g 200), .ref (a 213), .int 0, .int 97, .ref (a 214), .ref (a 215), .ref (a 207), .null, .int 0]))]) [1] (by decide) rfl
          have hFc := va_free (wc := [((a 200), .inr (21, [.int 1, .ref (a 201), .ref (a 202), .ref (a 203), .ref (a 204), .ref (a 205), .ref (a 206), .int 0, .int 0, .int 0, .int 0, .ref (a 208), .ref (a 209), .ref (a 210), .ref (a 211), .ref (a 212), .int 4, .int 12, .int (-1), .int 0, .ref (g 200), .ref (a 213), .int 0, .int 97, .ref (a 214), .ref (a 215), .ref (a 207), .null, .int 0]))]) hD hS hA [1] rfl
          refine va_calli (va_runV (As := []) (rest := []) ⟨hx, hb, hml, hown, ht⟩ (k_X15_thrown_v2 l D g z0 _ a) (cwV 0 ht (gV w_772 w_774 w_775 w_334 w_773) rfl rfl rfl (by decide +kernel) (le2 rfl rfl)) ⟨PP.blind, va_recv hK.1 hP (ci := 21) (q0 := 1) rfl rfl, PP.mk' hK hZ hz hAz hS hPc hDc⟩ rfl rfl hl.1 rfl (lv_room (Nat.le_of_ble_eq_true rfl)) dL_law_4008 (le2 rfl rfl)) hS (fun q _ h => hFc q h) hFc (fun r u t H locs ht1 hvm hw hB hz1 hk1 hS => ?_)
          obtain ⟨rfl, hw⟩ := hw
          obtain ⟨hP1, hD1⟩ := hB
          rw [ht1] at hP1
          obtain ⟨hP, hD⟩ := va_join (wr := [(o1, .inl (g 1, 1, .inr (.inl (fun _ => 0))))]) (w1 := [((a 200), .inr (21, [.int 1, .ref (a 201), .ref (a 202), .ref (a 203), .ref (a 204), .ref (a 205), .ref (a 206), .int 0, .int 0, .int 0, .int 0, .ref (a 208), .ref (a 209), .ref (a 210), .ref (a 211), .ref (a 212), .int 4, .int 12, .int (-1), .int 0, .ref (g 200), .ref (a 213), .int 0, .int 97, .ref (a 214), .ref (a 215), .ref (a 207), .null, .int 0]))]) hP hD [1] [0] rfl rfl (by decide) (by decide) hk1 hFc hP1 hD1
          have hP : va_P D vwCl [(o1, .inl (g 1, 1, .inr (.inl (fun _ => 0)))), ((a 200), .inr (21, [.int 1, .ref (a 201), .ref (a 202), .ref (a 203), .ref (a 204), .ref (a 205), .ref (a 206), .int 0, .int 0, .int 0, .int 0, .ref (a 208), .ref (a 209), .ref (a 210), .ref (a 211), .ref (a 212), .int 4, .int 12, .int (-1), .int 0, .ref (g 200), .ref (a 213), .int 0, .int 97, .ref (a 214), .ref (a 215), .ref (a 207), .null, .int 0]))] H := hP
          have hD : va_D (va_A [] s.heap.size) [(o1, .inl (g 1, 1, .inr (.inl (fun _ => 0)))), ((a 200), .inr (21, [.int 1, .ref (a 201), .ref (a 202), .ref (a 203), .ref (a 204), .ref (a 205), .ref (a 206), .int 0, .int 0, .int 0, .int 0, .ref (a 208), .ref (a 209), .ref (a 210), .ref (a 211), .ref (a 212), .int 4, .int 12, .int (-1), .int 0, .ref (g 200), .ref (a 213), .int 0, .int 97, .ref (a 214), .ref (a 215), .ref (a 207), .null, .int 0]))] := hD
          refine lv_iload hx hb dL_law_4011 (lv_at hl 1 rfl) ?_
          refine lv_icmp_eq (tgt := 4018) hx hb dL_law_4013 (by decide) (fun c_188 => ?_) (fun c_188 => ?_)
          · refine lv_iload hx hb dL_law_4018 (lv_at hl 1 rfl) ?_
            refine lv_if_ne (tgt := 4035) hx hb dL_law_4020 (by decide) (fun c_189 => ?_) (fun c_189 => ?_)
            · refine lv_goto (tgt := 4264) hx hb dL_law_4035 (by decide) ?_
              refine W.widen (k := 200 + 300) (n := 8000 + 2000) (Nat.le_of_ble_eq_true rfl) (Nat.le_of_ble_eq_true rfl) ?_
              exact kk _ _ _ hS (lv_sub hl [7, 2] rfl)
            · exact absurd c_189 (by decide)
          · exact absurd c_188 (by decide)
      · obtain ⟨rfl, rfl, hw⟩ := hw
        obtain ⟨c_190, c_191, c_192, c_193, c_194, c_195⟩ := hw
        exact absurd (Int.le_trans (lo_nle c_166) (up_nlt c_195)) (by decide)
  · obtain ⟨rfl, hw⟩ := hw
    obtain ⟨c_196, c_197, c_198, c_199, c_200, c_201⟩ := hw
    obtain ⟨hP1, hD1⟩ := hB
    rw [ht1] at hP1
    obtain ⟨hP, hD⟩ := va_join (wr := [((a 200), f_m a g), ((a 207), .inr (5, [.int 0, .ref (g 100), .int 0]))]) (w1 := [(o1, .inl (g 1, 1, .inr (.inl (fun _ => 0))))]) hP hD [7, 0, 4, 1, 2, 3] [5, 6] rfl rfl (by decide) (by decide) hk1 hFc hP1 hD1
    have hP : va_P D vwCl [((a 200), f_m a g), ((a 207), .inr (5, [.int 0, .ref (g 100), .int 0])), (o1, .inl (g 1, 1, .inr (.inl (fun _ => 0))))] H := hP
    have hD : va_D (va_A [] s.heap.size) [((a 200), f_m a g), ((a 207), .inr (5, [.int 0, .ref (g 100), .int 0])), (o1, .inl (g 1, 1, .inr (.inl (fun _ => 0))))] := hD
    refine lv_istore (lv' := [(6, .int 0), (0, .ref b), (1, .ref (a 0)), (2, .ref (a 200)), (3, .ref o1), (4, .ref o2), (5, .int 0)]) hx hb dL_law_3981 hl (by decide) rfl (fun ls hl => ?_)
    refine lv_aload_n hx hb dL_law_3983 rfl (lv_at hl 3 rfl) ?_
    refine lv_aload_n hx hb dL_law_3984 rfl (lv_at hl 1 rfl) ?_
    refine lv_iload hx hb dL_law_3985 (lv_at hl 6 rfl) ?_
    refine lv_iconst (v := 1) hx hb dL_law_3987 (by decide) ?_
    refine lv_iadd hx hb dL_law_3988 ?_
    refine r_topi (v := 1) (by decide) ?_
    refine va_sld hx hb hX hbl hbA hS (by unfold vp_in; decide) dL_law_3989 ?_
    refine r_topi (v := xs 1) (congrArg xs (by decide)) ?_
    refine lv_aload_n hx hb dL_law_3990 rfl (lv_at hl 1 rfl) ?_
    refine lv_iload hx hb dL_law_3991 (lv_at hl 6 rfl) ?_
    refine lv_iconst (v := 2) hx hb dL_law_3993 (by decide) ?_
    refine lv_iadd hx hb dL_law_3994 ?_
    refine r_topi (v := 2) (by decide) ?_
    refine va_sld hx hb hX hbl hbA hS (by unfold vp_in; decide) dL_law_3995 ?_
    refine r_topi (v := xs 2) (congrArg xs (by decide)) ?_
    refine lv_aload_n hx hb dL_law_3996 rfl (lv_at hl 1 rfl) ?_
    refine lv_iload hx hb dL_law_3997 (lv_at hl 6 rfl) ?_
    refine lv_iconst (v := 3) hx hb dL_law_3999 (by decide) ?_
    refine lv_iadd hx hb dL_law_4000 ?_
    refine r_topi (v := 3) (by decide) ?_
    refine va_sld hx hb hX hbl hbA hS (by unfold vp_in; decide) dL_law_4001 ?_
    refine r_topi (v := xs 3) (congrArg xs (by decide)) ?_
    have hPc : va_P D vwCl [((a 200), f_m a g), ((a 207), .inr (5, [.int 0, .ref (g 100), .int 0]))] _ := hP.sub (ws' := [((a 200), f_m a g), ((a 207), .inr (5, [.int 0, .ref (g 100), .int 0]))]) [0, 1] rfl
    have hDc : va_D (fun q => z0 ≤ q) [((a 200), f_m a g), ((a 207), .inr (5, [.int 0, .ref (g 100), .int 0]))] := (hD.to hAz).pick (ws' := [((a 200), f_m a g), ((a 207), .inr (5, [.int 0, .ref (g 100), .int 0]))]) [0, 1] (by decide) rfl
    have hFc := va_free (wc := [((a 200), f_m a g), ((a 207), .inr (5, [.int 0, .ref (g 100), .int 0]))]) hD hS hA [0, 1] rfl
    refine va_calli (va_runV (As := [.int (xs 1), .int (xs 2), .int (xs 3)]) (rest := []) ⟨hx, hb, hml, hown, ht⟩ (k_X15_core l D g z0 _ a (xs 1) (xs 2) (xs 3)) (cwV 3 ht (gV w_1195 w_1197 w_1198 w_334 w_1196) rfl rfl rfl (by decide +kernel) (le2 rfl rfl)) ⟨PP.blind, va_recv hK.1 hP (ci := 21) (q0 := 0) rfl rfl, PP.mk' hK hZ hz hAz hS hPc hDc⟩ rfl rfl hl.1 rfl (lv_room (Nat.le_of_ble_eq_true rfl)) dL_law_4002 (le2 rfl rfl)) hS (fun q _ h => hFc q h) hFc (fun r u t H locs ht1 hvm hw hB hz1 hk1 hS => ?_)
    rcases hw with hw | hw
    · obtain ⟨rfl, rfl, hw⟩ := hw
      rcases hw with hw | hw | hw | hw | hw | hw
      · have c_202 := hw
        exact absurd c_202 c_196
      · obtain ⟨c_203, c_204⟩ := hw
        exact absurd (Int.le_trans (lo_lt c_204) (up_le c_197)) (by decide)
      · obtain ⟨c_205, c_206, c_207⟩ := hw
        exact absurd c_207 c_198
      · obtain ⟨c_208, c_209, c_210, c_211⟩ := hw
        exact absurd (Int.le_trans (lo_lt c_211) (up_le c_199)) (by decide)
      · obtain ⟨c_212, c_213, c_214, c_215, c_216⟩ := hw
        exact absurd c_216 c_200
      · obtain ⟨c_217, c_218, c_219, c_220, c_221, c_222⟩ := hw
        exact absurd (Int.le_trans (lo_lt c_222) (up_le c_201)) (by decide)
    · obtain ⟨rfl, rfl, hw⟩ := hw
      obtain ⟨c_223, c_224, c_225, c_226, c_227, c_228⟩ := hw
      obtain ⟨hP1, hD1⟩ := hB
      rw [ht1] at hP1
      obtain ⟨hP, hD⟩ := va_join (wr := [(o1, .inl (g 1, 1, .inr (.inl (fun _ => 0))))]) (w1 := [((a 200), f_m a g)]) hP hD [0, 1] [2] rfl rfl (by decide) (by decide) hk1 hFc hP1 hD1
      have hP : va_P D vwCl [(o1, .inl (g 1, 1, .inr (.inl (fun _ => 0)))), ((a 200), f_m a g)] H := hP
      have hD : va_D (va_A [] s.heap.size) [(o1, .inl (g 1, 1, .inr (.inl (fun _ => 0)))), ((a 200), f_m a g)] := hD
      refine lv_istore (lv' := [(7, .int 0), (6, .int 0), (0, .ref b), (1, .ref (a 0)), (2, .ref (a 200)), (3, .ref o1), (4, .ref o2), (5, .int 0)]) hx hb dL_law_4005 hl (by decide) rfl (fun ls hl => ?_)
      refine lv_aload_n hx hb dL_law_4007 rfl (lv_at hl 4 rfl) ?_
      have hPc : va_P D vwCl [((a 200), f_m a g)] _ := hP.sub (ws' := [((a 200), f_m a g)]) [1] rfl
      have hDc : va_D (fun q => z0 ≤ q) [((a 200), f_m a g)] := (hD.to hAz).pick (ws' := [((a 200), f_m a g)]) [1] (by decide) rfl
      have hFc := va_free (wc := [((a 200), f_m a g)]) hD hS hA [1] rfl
      refine va_calli (va_runV (As := []) (rest := []) ⟨hx, hb, hml, hown, ht⟩ (k_X15_thrown l D g z0 _ a) (cwV 0 ht (gV w_772 w_774 w_775 w_334 w_773) rfl rfl rfl (by decide +kernel) (le2 rfl rfl)) ⟨PP.blind, va_recv hK.1 hP (ci := 21) (q0 := 1) rfl rfl, PP.mk' hK hZ hz hAz hS hPc hDc⟩ rfl rfl hl.1 rfl (lv_room (Nat.le_of_ble_eq_true rfl)) dL_law_4008 (le2 rfl rfl)) hS (fun q _ h => hFc q h) hFc (fun r u t H locs ht1 hvm hw hB hz1 hk1 hS => ?_)
      obtain ⟨rfl, hw⟩ := hw
      obtain ⟨hP1, hD1⟩ := hB
      rw [ht1] at hP1
      obtain ⟨hP, hD⟩ := va_join (wr := [(o1, .inl (g 1, 1, .inr (.inl (fun _ => 0))))]) (w1 := [((a 200), f_m a g)]) hP hD [1] [0] rfl rfl (by decide) (by decide) hk1 hFc hP1 hD1
      have hP : va_P D vwCl [(o1, .inl (g 1, 1, .inr (.inl (fun _ => 0)))), ((a 200), f_m a g)] H := hP
      have hD : va_D (va_A [] s.heap.size) [(o1, .inl (g 1, 1, .inr (.inl (fun _ => 0)))), ((a 200), f_m a g)] := hD
      refine lv_iload hx hb dL_law_4011 (lv_at hl 1 rfl) ?_
      refine lv_icmp_eq (tgt := 4018) hx hb dL_law_4013 (by decide) (fun c_229 => ?_) (fun c_229 => ?_)
      · refine lv_iload hx hb dL_law_4018 (lv_at hl 1 rfl) ?_
        refine lv_if_ne (tgt := 4035) hx hb dL_law_4020 (by decide) (fun c_230 => ?_) (fun c_230 => ?_)
        · exact absurd c_230 (by decide)
        · refine lv_aload_n hx hb dL_law_4023 rfl (lv_at hl 5 rfl) ?_
          refine lv_iconst (v := 0) hx hb dL_law_4024 (by decide) ?_
          refine va_lald hx hb hK.1 hP 0 1 rfl rfl (by unfold vp_in; decide) dL_law_4025 ?_
          refine r_topl (v := 0) (by decide) ?_
          refine lv_iload hx hb dL_law_4026 (lv_at hl 0 rfl) ?_
          refine lv_i2l (v := 0) hx hb dL_law_4028 (by decide) ?_
          refine W.lcmp hx hb dL_law_4029 ?_
          refine r_topi (v := 0) (by decide) ?_
          refine lv_if_eq (tgt := 4035) hx hb dL_law_4030 (by decide) (fun c_231 => ?_) (fun c_231 => ?_)
          · refine lv_goto (tgt := 4264) hx hb dL_law_4035 (by decide) ?_
            refine W.widen (k := 200 + 300) (n := 8000 + 2000) (Nat.le_of_ble_eq_true rfl) (Nat.le_of_ble_eq_true rfl) ?_
            exact kk _ _ _ hS (lv_sub hl [7, 2] rfl)
          · exact absurd c_231 (by decide)
      · exact absurd c_229 (by decide)
