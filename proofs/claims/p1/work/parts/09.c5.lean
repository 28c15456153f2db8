theorem w_1199 : Cond.methodLink RL 442 yL_least ∈ TG := tg (sg_9 _ (List.mem_of_getElem? (i := 10) (by decide +kernel))) (by decide +kernel)
theorem w_1200 : Cond.codeWith yL_least cL_least 5 (some .int) [(0, 10, 13, 86)] ∈ TG := tg (sg_9 _ (List.mem_of_getElem? (i := 12) (by decide +kernel))) (by decide +kernel)
theorem w_1201 : Cond.static yL_least ∈ TG := tg (sg_9 _ (List.mem_of_getElem? (i := 11) (by decide +kernel))) (by decide +kernel)
theorem w_1202 : Cond.methodLink RL 444 yX15_least ∈ TG := tg (sg_14 _ (List.mem_of_getElem? (i := 188) (by decide +kernel))) (by decide +kernel)
theorem w_1203 : Cond.code yX15_least cX15_least 3 (some .int) ∈ TG := tg (sg_14 _ (List.mem_of_getElem? (i := 191) (by decide +kernel))) (by decide +kernel)
theorem w_1204 : Cond.instanceMethod yX15_least ∈ TG := tg (sg_14 _ (List.mem_of_getElem? (i := 189) (by decide +kernel))) (by decide +kernel)
theorem w_1205 : Cond.selects RX15 yX15_least yX15_least ∈ TG := tg (sg_14 _ (List.mem_of_getElem? (i := 190) (by decide +kernel))) (by decide +kernel)
theorem w_1206 : Cond.methodLink RL 445 yL_begins ∈ TG := tg (sg_9 _ (List.mem_of_getElem? (i := 53) (by decide +kernel))) (by decide +kernel)
theorem w_1207 : Cond.codeWith yL_begins cL_begins 6 (some .int) [(0, 12, 15, 26), (0, 12, 19, 86)] ∈ TG := tg (sg_9 _ (List.mem_of_getElem? (i := 55) (by decide +kernel))) (by decide +kernel)
theorem w_1208 : Cond.static yL_begins ∈ TG := tg (sg_9 _ (List.mem_of_getElem? (i := 54) (by decide +kernel))) (by decide +kernel)
theorem w_1209 : Cond.methodLink RL 447 yX15_begins ∈ TG := tg (sg_14 _ (List.mem_of_getElem? (i := 209) (by decide +kernel))) (by decide +kernel)
theorem w_1210 : Cond.code yX15_begins cX15_begins 4 (some .int) ∈ TG := tg (sg_14 _ (List.mem_of_getElem? (i := 212) (by decide +kernel))) (by decide +kernel)
theorem w_1211 : Cond.instanceMethod yX15_begins ∈ TG := tg (sg_14 _ (List.mem_of_getElem? (i := 210) (by decide +kernel))) (by decide +kernel)
theorem w_1212 : Cond.selects RX15 yX15_begins yX15_begins ∈ TG := tg (sg_14 _ (List.mem_of_getElem? (i := 211) (by decide +kernel))) (by decide +kernel)
theorem w_1213 : Cond.methodLink RL 448 yL_meanFound ∈ TG := tg (sg_9 _ (List.mem_of_getElem? (i := 60) (by decide +kernel))) (by decide +kernel)
theorem w_1214 : Cond.codeWith yL_meanFound cL_meanFound 3 (some .int) [(0, 7, 10, 81)] ∈ TG := tg (sg_9 _ (List.mem_of_getElem? (i := 62) (by decide +kernel))) (by decide +kernel)
theorem w_1215 : Cond.static yL_meanFound ∈ TG := tg (sg_9 _ (List.mem_of_getElem? (i := 61) (by decide +kernel))) (by decide +kernel)
theorem w_1216 : Cond.methodLink RL 451 yX15_meanFound ∈ TG := tg (sg_14 _ (List.mem_of_getElem? (i := 213) (by decide +kernel))) (by decide +kernel)
theorem w_1217 : Cond.code yX15_meanFound cX15_meanFound 5 (some .double) ∈ TG := tg (sg_14 _ (List.mem_of_getElem? (i := 216) (by decide +kernel))) (by decide +kernel)
theorem w_1218 : Cond.instanceMethod yX15_meanFound ∈ TG := tg (sg_14 _ (List.mem_of_getElem? (i := 214) (by decide +kernel))) (by decide +kernel)
theorem w_1219 : Cond.selects RX15 yX15_meanFound yX15_meanFound ∈ TG := tg (sg_14 _ (List.mem_of_getElem? (i := 215) (by decide +kernel))) (by decide +kernel)
theorem w_1220 : Cond.methodLink RL 452 yX11_isSound ∈ TG := tg (sg_4 _ (List.mem_of_getElem? (i := 123) (by decide +kernel))) (by decide +kernel)
theorem w_1221 : Cond.code yX11_isSound cX11_isSound 1 (some .boolean) ∈ TG := tg (sg_4 _ (List.mem_of_getElem? (i := 126) (by decide +kernel))) (by decide +kernel)
theorem w_1222 : Cond.instanceMethod yX11_isSound ∈ TG := tg (sg_4 _ (List.mem_of_getElem? (i := 124) (by decide +kernel))) (by decide +kernel)
theorem w_1223 : Cond.selects RX11 yX11_isSound yX11_isSound ∈ TG := tg (sg_4 _ (List.mem_of_getElem? (i := 125) (by decide +kernel))) (by decide +kernel)
theorem w_1224 : Cond.methodLink RL 455 yX15_isSound ∈ TG := tg (sg_14 _ (List.mem_of_getElem? (i := 217) (by decide +kernel))) (by decide +kernel)
theorem w_1225 : Cond.code yX15_isSound cX15_isSound 1 (some .boolean) ∈ TG := tg (sg_14 _ (List.mem_of_getElem? (i := 220) (by decide +kernel))) (by decide +kernel)
theorem w_1226 : Cond.instanceMethod yX15_isSound ∈ TG := tg (sg_14 _ (List.mem_of_getElem? (i := 218) (by decide +kernel))) (by decide +kernel)
theorem w_1227 : Cond.selects RX15 yX15_isSound yX15_isSound ∈ TG := tg (sg_14 _ (List.mem_of_getElem? (i := 219) (by decide +kernel))) (by decide +kernel)
theorem dL_law_4038 : decode cL_law 4038 = .ok (.aload_n 1, 1) := by decide +kernel
theorem dL_law_4039 : decode cL_law 4039 = .ok (.aload_n 0, 1) := by decide +kernel
theorem dL_law_4040 : decode cL_law 4040 = .ok (.iload 5, 2) := by decide +kernel
theorem dL_law_4042 : decode cL_law 4042 = .ok (.iconst 1, 1) := by decide +kernel
theorem dL_law_4043 : decode cL_law 4043 = .ok (.iadd, 1) := by decide +kernel
theorem dL_law_4044 : decode cL_law 4044 = .ok (.iaload, 1) := by decide +kernel
theorem dL_law_4045 : decode cL_law 4045 = .ok (.aload_n 0, 1) := by decide +kernel
theorem dL_law_4046 : decode cL_law 4046 = .ok (.iload 5, 2) := by decide +kernel
theorem dL_law_4048 : decode cL_law 4048 = .ok (.iconst 2, 1) := by decide +kernel
theorem dL_law_4049 : decode cL_law 4049 = .ok (.iadd, 1) := by decide +kernel
theorem dL_law_4050 : decode cL_law 4050 = .ok (.iaload, 1) := by decide +kernel
theorem dL_law_4051 : decode cL_law 4051 = .ok (.aload_n 3, 1) := by decide +kernel
theorem dL_law_4052 : decode cL_law 4052 = .ok (.invokestatic 442, 3) := by decide +kernel
theorem dL_law_4055 : decode cL_law 4055 = .ok (.istore 6, 2) := by decide +kernel
theorem dL_law_4057 : decode cL_law 4057 = .ok (.aload_n 2, 1) := by decide +kernel
theorem dL_law_4058 : decode cL_law 4058 = .ok (.aload_n 0, 1) := by decide +kernel
theorem dL_law_4059 : decode cL_law 4059 = .ok (.iload 5, 2) := by decide +kernel
theorem dL_law_4061 : decode cL_law 4061 = .ok (.iconst 1, 1) := by decide +kernel
theorem dL_law_4062 : decode cL_law 4062 = .ok (.iadd, 1) := by decide +kernel
theorem dL_law_4063 : decode cL_law 4063 = .ok (.iaload, 1) := by decide +kernel
theorem dL_law_4064 : decode cL_law 4064 = .ok (.aload_n 0, 1) := by decide +kernel
theorem dL_law_4065 : decode cL_law 4065 = .ok (.iload 5, 2) := by decide +kernel
theorem dL_law_4067 : decode cL_law 4067 = .ok (.iconst 2, 1) := by decide +kernel
theorem dL_law_4068 : decode cL_law 4068 = .ok (.iadd, 1) := by decide +kernel
theorem dL_law_4069 : decode cL_law 4069 = .ok (.iaload, 1) := by decide +kernel
theorem dL_law_4070 : decode cL_law 4070 = .ok (.invokevirtual 444, 3) := by decide +kernel
theorem dL_law_4073 : decode cL_law 4073 = .ok (.istore 7, 2) := by decide +kernel
theorem dL_law_4075 : decode cL_law 4075 = .ok (.aload_n 2, 1) := by decide +kernel
theorem dL_law_4076 : decode cL_law 4076 = .ok (.invokevirtual 221, 3) := by decide +kernel
theorem dL_law_4079 : decode cL_law 4079 = .ok (.iload 6, 2) := by decide +kernel
theorem dL_law_4081 : decode cL_law 4081 = .ok (.if_icmp .eq 5, 3) := by decide +kernel
theorem dL_law_4086 : decode cL_law 4086 = .ok (.iload 6, 2) := by decide +kernel
theorem dL_law_4088 : decode cL_law 4088 = .ok (.ifCond .ne 15, 3) := by decide +kernel
theorem dL_law_4103 : decode cL_law 4103 = .ok (.goto 161, 3) := by decide +kernel
theorem dL_law_4106 : decode cL_law 4106 = .ok (.aload_n 1, 1) := by decide +kernel
theorem dL_law_4107 : decode cL_law 4107 = .ok (.aload_n 0, 1) := by decide +kernel
theorem dL_law_4108 : decode cL_law 4108 = .ok (.iload 5, 2) := by decide +kernel
theorem dL_law_4110 : decode cL_law 4110 = .ok (.iconst 1, 1) := by decide +kernel
theorem dL_law_4111 : decode cL_law 4111 = .ok (.iadd, 1) := by decide +kernel
theorem dL_law_4112 : decode cL_law 4112 = .ok (.iaload, 1) := by decide +kernel
theorem dL_law_4113 : decode cL_law 4113 = .ok (.aload_n 0, 1) := by decide +kernel
theorem dL_law_4114 : decode cL_law 4114 = .ok (.iload 5, 2) := by decide +kernel
theorem dL_law_4116 : decode cL_law 4116 = .ok (.iconst 2, 1) := by decide +kernel
theorem dL_law_4117 : decode cL_law 4117 = .ok (.iadd, 1) := by decide +kernel
theorem dL_law_4118 : decode cL_law 4118 = .ok (.iaload, 1) := by decide +kernel
theorem dL_law_4119 : decode cL_law 4119 = .ok (.aload_n 0, 1) := by decide +kernel
theorem dL_law_4120 : decode cL_law 4120 = .ok (.iload 5, 2) := by decide +kernel
theorem dL_law_4122 : decode cL_law 4122 = .ok (.iconst 3, 1) := by decide +kernel
theorem dL_law_4123 : decode cL_law 4123 = .ok (.iadd, 1) := by decide +kernel
theorem dL_law_4124 : decode cL_law 4124 = .ok (.iaload, 1) := by decide +kernel
theorem dL_law_4125 : decode cL_law 4125 = .ok (.aload_n 3, 1) := by decide +kernel
theorem dL_law_4126 : decode cL_law 4126 = .ok (.invokestatic 445, 3) := by decide +kernel
theorem dL_law_4129 : decode cL_law 4129 = .ok (.istore 6, 2) := by decide +kernel
theorem dL_law_4131 : decode cL_law 4131 = .ok (.aload_n 2, 1) := by decide +kernel
theorem dL_law_4132 : decode cL_law 4132 = .ok (.aload_n 0, 1) := by decide +kernel
theorem dL_law_4133 : decode cL_law 4133 = .ok (.iload 5, 2) := by decide +kernel
theorem dL_law_4135 : decode cL_law 4135 = .ok (.iconst 1, 1) := by decide +kernel
theorem dL_law_4136 : decode cL_law 4136 = .ok (.iadd, 1) := by decide +kernel
theorem dL_law_4137 : decode cL_law 4137 = .ok (.iaload, 1) := by decide +kernel
theorem dL_law_4138 : decode cL_law 4138 = .ok (.aload_n 0, 1) := by decide +kernel
theorem dL_law_4139 : decode cL_law 4139 = .ok (.iload 5, 2) := by decide +kernel
theorem dL_law_4141 : decode cL_law 4141 = .ok (.iconst 2, 1) := by decide +kernel
theorem dL_law_4142 : decode cL_law 4142 = .ok (.iadd, 1) := by decide +kernel
theorem dL_law_4143 : decode cL_law 4143 = .ok (.iaload, 1) := by decide +kernel
theorem dL_law_4144 : decode cL_law 4144 = .ok (.aload_n 0, 1) := by decide +kernel
theorem dL_law_4145 : decode cL_law 4145 = .ok (.iload 5, 2) := by decide +kernel
theorem dL_law_4147 : decode cL_law 4147 = .ok (.iconst 3, 1) := by decide +kernel
theorem dL_law_4148 : decode cL_law 4148 = .ok (.iadd, 1) := by decide +kernel
theorem dL_law_4149 : decode cL_law 4149 = .ok (.iaload, 1) := by decide +kernel
theorem dL_law_4150 : decode cL_law 4150 = .ok (.invokevirtual 447, 3) := by decide +kernel
theorem dL_law_4153 : decode cL_law 4153 = .ok (.istore 7, 2) := by decide +kernel
theorem dL_law_4155 : decode cL_law 4155 = .ok (.aload_n 2, 1) := by decide +kernel
theorem dL_law_4156 : decode cL_law 4156 = .ok (.invokevirtual 221, 3) := by decide +kernel
theorem dL_law_4159 : decode cL_law 4159 = .ok (.iload 6, 2) := by decide +kernel
theorem dL_law_4161 : decode cL_law 4161 = .ok (.if_icmp .eq 5, 3) := by decide +kernel
theorem dL_law_4166 : decode cL_law 4166 = .ok (.iload 6, 2) := by decide +kernel
theorem dL_law_4168 : decode cL_law 4168 = .ok (.ifCond .ne 15, 3) := by decide +kernel
theorem dL_law_4183 : decode cL_law 4183 = .ok (.goto 81, 3) := by decide +kernel
theorem dL_law_4186 : decode cL_law 4186 = .ok (.aload_n 1, 1) := by decide +kernel
theorem dL_law_4187 : decode cL_law 4187 = .ok (.aload 4, 2) := by decide +kernel
theorem dL_law_4189 : decode cL_law 4189 = .ok (.invokestatic 448, 3) := by decide +kernel
theorem dL_law_4192 : decode cL_law 4192 = .ok (.istore 6, 2) := by decide +kernel
theorem dL_law_4194 : decode cL_law 4194 = .ok (.aload_n 2, 1) := by decide +kernel
theorem dL_law_4195 : decode cL_law 4195 = .ok (.invokevirtual 451, 3) := by decide +kernel
theorem dL_law_4198 : decode cL_law 4198 = .ok (.dstore 7, 2) := by decide +kernel
theorem dL_law_4200 : decode cL_law 4200 = .ok (.aload_n 2, 1) := by decide +kernel
theorem dL_law_4201 : decode cL_law 4201 = .ok (.invokevirtual 221, 3) := by decide +kernel
theorem dL_law_4204 : decode cL_law 4204 = .ok (.iload 6, 2) := by decide +kernel
theorem dL_law_4206 : decode cL_law 4206 = .ok (.if_icmp .eq 5, 3) := by decide +kernel
theorem dL_law_4211 : decode cL_law 4211 = .ok (.iload 6, 2) := by decide +kernel
theorem dL_law_4213 : decode cL_law 4213 = .ok (.ifCond .ne 35, 3) := by decide +kernel
theorem dL_law_4248 : decode cL_law 4248 = .ok (.goto 16, 3) := by decide +kernel
theorem dL_law_4251 : decode cL_law 4251 = .ok (.aload_n 1, 1) := by decide +kernel
theorem dL_law_4252 : decode cL_law 4252 = .ok (.invokevirtual 452, 3) := by decide +kernel
theorem dL_law_4255 : decode cL_law 4255 = .ok (.aload_n 2, 1) := by decide +kernel
theorem dL_law_4256 : decode cL_law 4256 = .ok (.invokevirtual 455, 3) := by decide +kernel
theorem dL_law_4259 : decode cL_law 4259 = .ok (.if_icmp .eq 5, 3) := by decide +kernel
set_option maxHeartbeats 4000000 in
set_option maxRecDepth 100000 in
theorem lw_case_66 {p : Program} {l : Launch} {e : Env} {s : State} {m : MethodId} {below : List Frame} {meth : Method} {c : Code} {H : Heap} {locs : List Loc} {ls : Array Slot} {Q : State → Prop} {D : va_G} {g : Nat → ClassId} {z0 b : Nat} {xs : Nat → Int32} {a : Nat → Nat} {o1 o2 : Nat} (hfl : l.stackTraces = false) (hx : p.tables.exec = Jvm.exec) (hb : c.code = cL_law) (hml : c.maxLocals = 9) (hown : s.vm.findClass RL = some m.cls) (ht : ∀ w ∈ TG, w.before #[Value.ref b] s = true) (hX : va_X b 6 xs s s.heap) (hbl : b < s.heap.size) (hbA : ¬ va_A [] s.heap.size b) (hK : KK D g s) (hZ : ZZ g z0 s) (hz : z0 ≤ s.heap.size) (hAz : ∀ q, va_A [] s.heap.size q → z0 ≤ q) (hP : va_P D vwCl (lwW a g o1 o2) H) (hD : va_D (va_A [] s.heap.size) (lwW a g o1 o2)) (hS : va_S (va_A [] s.heap.size) s.heap H locs) (hl : lv_has ls 9 [(0, .ref b), (1, .ref (a 0)), (2, .ref (a 200)), (3, .ref o1), (4, .ref o2), (5, .int 0)])
    (kk : ∀ (H : Heap) (locs : List Loc) (ls : Array Slot), va_S (va_A [] s.heap.size) s.heap H locs → lv_has ls 9 [(5, .int 0), (0, .ref b)] → W p l e room_1 s m #[Value.ref b] below meth c H locs (200 + 300) (8000 + 2000) Q (F0 m 4264 ls [])) :
    W p l e room_1 s m #[Value.ref b] below meth c H locs 200 8000 Q (F0 m 4038 ls []) := by
  have hA : ∀ q : Nat, s.heap.size ≤ q → va_A [] s.heap.size q := Anw
  have hP := hP.sub (ws' := [((a 0), f_x a), ((a 11), f_cores a), ((a 200), f_m a g), ((a 207), .inr (5, [.int 0, .ref (g 100), .int 0])), (o1, .inl (g 1, 1, .inr (.inl (fun _ => 0))))]) [0, 25, 26, 33, 61] rfl
  have hD := hD.sub (ws' := [((a 0), f_x a), ((a 11), f_cores a), ((a 200), f_m a g), ((a 207), .inr (5, [.int 0, .ref (g 100), .int 0])), (o1, .inl (g 1, 1, .inr (.inl (fun _ => 0))))]) [0, 25, 26, 33, 61] (by decide) rfl
  refine lv_aload_n hx hb dL_law_4038 rfl (lv_at hl 1 rfl) ?_
  refine lv_aload_n hx hb dL_law_4039 rfl (lv_at hl 0 rfl) ?_
  refine lv_iload hx hb dL_law_4040 (lv_at hl 5 rfl) ?_
  refine lv_iconst (v := 1) hx hb dL_law_4042 (by decide) ?_
  refine lv_iadd hx hb dL_law_4043 ?_
  refine r_topi (v := 1) (by decide) ?_
  refine va_sld hx hb hX hbl hbA hS (by unfold vp_in; decide) dL_law_4044 ?_
  refine r_topi (v := xs 1) (congrArg xs (by decide)) ?_
  refine lv_aload_n hx hb dL_law_4045 rfl (lv_at hl 0 rfl) ?_
  refine lv_iload hx hb dL_law_4046 (lv_at hl 5 rfl) ?_
  refine lv_iconst (v := 2) hx hb dL_law_4048 (by decide) ?_
  refine lv_iadd hx hb dL_law_4049 ?_
  refine r_topi (v := 2) (by decide) ?_
  refine va_sld hx hb hX hbl hbA hS (by unfold vp_in; decide) dL_law_4050 ?_
  refine r_topi (v := xs 2) (congrArg xs (by decide)) ?_
  refine lv_aload_n hx hb dL_law_4051 rfl (lv_at hl 3 rfl) ?_
  have hPc : va_P D vwCl [(o1, .inl (g 1, 1, .inr (.inl (fun _ => 0)))), ((a 0), f_x a), ((a 11), f_cores a)] _ := hP.sub (ws' := [(o1, .inl (g 1, 1, .inr (.inl (fun _ => 0)))), ((a 0), f_x a), ((a 11), f_cores a)]) [4, 0, 1] rfl
  have hDc : va_D (fun q => z0 ≤ q) [(o1, .inl (g 1, 1, .inr (.inl (fun _ => 0)))), ((a 0), f_x a), ((a 11), f_cores a)] := (hD.to hAz).pick (ws' := [(o1, .inl (g 1, 1, .inr (.inl (fun _ => 0)))), ((a 0), f_x a), ((a 11), f_cores a)]) [4, 0, 1] (by decide) rfl
  have hFc := va_free (wc := [(o1, .inl (g 1, 1, .inr (.inl (fun _ => 0)))), ((a 0), f_x a), ((a 11), f_cores a)]) hD hS hA [4, 0, 1] rfl
  refine va_calli (vx_runSW (As := [.ref (a 0), .int (xs 1), .int (xs 2), .ref o1]) (rest := []) ⟨hx, hb, hml, hown, ht⟩ (k_L_least l hfl D g z0 _ a (xs 1) (xs 2) o1) (vx_cwSW 4 ht (gS w_1199 w_1201 w_767 w_1200) rfl rfl rfl (by decide +kernel) (le2 rfl rfl)) ⟨PP.blind, PP.mk' hK hZ hz hAz hS hPc hDc⟩ rfl rfl hl.1 rfl (lv_room (Nat.le_of_ble_eq_true rfl)) dL_law_4052 (le2 rfl rfl)) hS (fun q _ h => hFc q h) hFc (fun r u t H locs ht1 hvm hw hB hz1 hk1 hS => ?_)
  obtain ⟨rfl, hw⟩ := hw
  obtain ⟨hP1, hD1⟩ := hB
  rw [ht1] at hP1
  obtain ⟨hP, hD⟩ := va_join (wr := [((a 200), f_m a g), ((a 207), .inr (5, [.int 0, .ref (g 100), .int 0]))]) (w1 := [(o1, .inl (g 1, 1, .inr (.inl (fun _ => 0))))]) hP hD [4, 0, 1] [2, 3] rfl rfl (by decide) (by decide) hk1 hFc hP1 hD1
  have hP : va_P D vwCl [((a 200), f_m a g), ((a 207), .inr (5, [.int 0, .ref (g 100), .int 0])), (o1, .inl (g 1, 1, .inr (.inl (fun _ => 0))))] H := hP
  have hD : va_D (va_A [] s.heap.size) [((a 200), f_m a g), ((a 207), .inr (5, [.int 0, .ref (g 100), .int 0])), (o1, .inl (g 1, 1, .inr (.inl (fun _ => 0))))] := hD
  refine lv_istore (lv' := [(6, .int 1), (0, .ref b), (1, .ref (a 0)), (2, .ref (a 200)), (3, .ref o1), (4, .ref o2), (5, .int 0)]) hx hb dL_law_4055 hl (by decide) rfl (fun ls hl => ?_)
  refine lv_aload_n hx hb dL_law_4057 rfl (lv_at hl 3 rfl) ?_
  refine lv_aload_n hx hb dL_law_4058 rfl (lv_at hl 1 rfl) ?_
  refine lv_iload hx hb dL_law_4059 (lv_at hl 6 rfl) ?_
  refine lv_iconst (v := 1) hx hb dL_law_4061 (by decide) ?_
  refine lv_iadd hx hb dL_law_4062 ?_
  refine r_topi (v := 1) (by decide) ?_
  refine va_sld hx hb hX hbl hbA hS (by unfold vp_in; decide) dL_law_4063 ?_
  refine r_topi (v := xs 1) (congrArg xs (by decide)) ?_
  refine lv_aload_n hx hb dL_law_4064 rfl (lv_at hl 1 rfl) ?_
  refine lv_iload hx hb dL_law_4065 (lv_at hl 6 rfl) ?_
  refine lv_iconst (v := 2) hx hb dL_law_4067 (by decide) ?_
  refine lv_iadd hx hb dL_law_4068 ?_
  refine r_topi (v := 2) (by decide) ?_
  refine va_sld hx hb hX hbl hbA hS (by unfold vp_in; decide) dL_law_4069 ?_
  refine r_topi (v := xs 2) (congrArg xs (by decide)) ?_
  have hPc : va_P D vwCl [((a 200), f_m a g), ((a 207), .inr (5, [.int 0, .ref (g 100), .int 0]))] _ := hP.sub (ws' := [((a 200), f_m a g), ((a 207), .inr (5, [.int 0, .ref (g 100), .int 0]))]) [0, 1] rfl
  have hDc : va_D (fun q => z0 ≤ q) [((a 200), f_m a g), ((a 207), .inr (5, [.int 0, .ref (g 100), .int 0]))] := (hD.to hAz).pick (ws' := [((a 200), f_m a g), ((a 207), .inr (5, [.int 0, .ref (g 100), .int 0]))]) [0, 1] (by decide) rfl
  have hFc := va_free (wc := [((a 200), f_m a g), ((a 207), .inr (5, [.int 0, .ref (g 100), .int 0]))]) hD hS hA [0, 1] rfl
  refine va_calli (va_runV (As := [.int (xs 1), .int (xs 2)]) (rest := []) ⟨hx, hb, hml, hown, ht⟩ (k_X15_least l D g z0 _ a (xs 1) (xs 2)) (cwV 2 ht (gV w_1202 w_1204 w_1205 w_334 w_1203) rfl rfl rfl (by decide +kernel) (le2 rfl rfl)) ⟨PP.blind, va_recv hK.1 hP (ci := 21) (q0 := 0) rfl rfl, PP.mk' hK hZ hz hAz hS hPc hDc⟩ rfl rfl hl.1 rfl (lv_room (Nat.le_of_ble_eq_true rfl)) dL_law_4070 (le2 rfl rfl)) hS (fun q _ h => hFc q h) hFc (fun r u t H locs ht1 hvm hw hB hz1 hk1 hS => ?_)
  obtain ⟨rfl, hw⟩ := hw
  obtain ⟨hP1, hD1⟩ := hB
  rw [ht1] at hP1
  obtain ⟨hP, hD⟩ := va_join (wr := [(o1, .inl (g 1, 1, .inr (.inl (fun _ => 0))))]) (w1 := [((a 200), .inr (21, [.int 1, .ref (a 201), .ref (a 202), .ref (a 203), .ref (a 204), .ref (a 205), .ref (a 206), .int 0, .int 0, .int 0, .int 0, .ref (a 208), .ref (a 209), .ref (a 210), .ref (a 211), .ref (a 212), .int 4, .int 12, .int (-1), .int 0, .ref (g 200), .ref (a 213), .int 0, .int 97, .ref (a 214), .ref (a 215), .ref (a 207), .null, .int 0]))]) hP hD [0, 1] [2] rfl rfl (by decide) (by decide) hk1 hFc hP1 hD1
  have hP : va_P D vwCl [(o1, .inl (g 1, 1, .inr (.inl (fun _ => 0)))), ((a 200), .inr (21, [.int 1, .ref (a 201), .ref (a 202), .ref (a 203), .ref (a 204), .ref (a 205), .ref (a 206), .int 0, .int 0, .int 0, .int 0, .ref (a 208), .ref (a 209), .ref (a 210), .ref (a 211), .ref (a 212), .int 4, .int 12, .int (-1), .int 0, .ref (g 200), .ref (a 213), .int 0, .int 97, .ref (a 214), .ref (a 215), .ref (a 207), .null, .int 0]))] H := hP
  have hD : va_D (va_A [] s.heap.size) [(o1, .inl (g 1, 1, .inr (.inl (fun _ => 0)))), ((a 200), .inr (21, [.int 1, .ref (a 201), .ref (a 202), .ref (a 203), .ref (a 204), .ref (a 205), .ref (a 206), .int 0, .int 0, .int 0, .int 0, .ref (a 208), .ref (a 209), .ref (a 210), .ref (a 211), .ref (a 212), .int 4, .int 12, .int (-1), .int 0, .ref (g 200), .ref (a 213), .int 0, .int 97, .ref (a 214), .ref (a 215), .ref (a 207), .null, .int 0]))] := hD
  refine lv_istore (lv' := [(7, .int 0), (6, .int 1), (0, .ref b), (1, .ref (a 0)), (2, .ref (a 200)), (3, .ref o1), (4, .ref o2), (5, .int 0)]) hx hb dL_law_4073 hl (by decide) rfl (fun ls hl => ?_)
  refine lv_aload_n hx hb dL_law_4075 rfl (lv_at hl 4 rfl) ?_
  have hPc : va_P D vwCl [((a 200), .inr (21, [.int 1, .ref (a 201), .ref (a 202), .ref (a 203), .ref (a 204), .ref (a 205), .ref (a 206), .int 0, .int 0, .int 0, .int 0, .ref (a 208), .ref (a 209), .ref (a 210), .ref (a 211), .ref (a 212), .int 4, .int 12, .int (-1), .int 0, .ref (g 200), .ref (a 213), .int 0, .int 97, .ref (a 214), .ref (a 215), .ref (a 207), .null, .int 0]))] _ := hP.sub (ws' := [((a 200), .inr (21, [.int 1, .ref (a 201), .ref (a 202), .ref (a 203), .ref (a 204), .ref (a 205), .ref (a 206), .int 0, .int 0, .int 0, .int 0, .ref (a 208), .ref (a 209), .ref (a 210), .ref (a 211), .ref (a 212), .int 4, .int 12, .int (-1), .int 0, .ref (g 200), .ref (a 213), .int 0, .int 97, .ref (a 214), .ref (a 215), .ref (a 207), .null, .int 0]))]) [1] rfl
  have hDc : va_D (fun q => z0 ≤ q) [((a 200), .inr (21, [.int 1, .ref (a 201), .ref (a 202), .ref (a 203), .ref (a 204), .ref (a 205), .ref (a 206), .int 0, .int 0, .int 0, .int 0, .ref (a 208), .ref (a 209), .ref (a 210), .ref (a 211), .ref (a 212), .int 4, .int 12, .int (-1), .int 0, .ref (g 200), .ref (a 213), .int 0, .int 97, .ref (a 214), .ref (a 215), .ref (a 207), .null, .int 0]))] := (hD.to hAz).pick (ws' := [((a 200), .inr (21, [.int 1, .ref (a 201), .ref (a 202), .ref (a 203), .ref (a 204), .ref (a 205), .ref (a 206), .int 0, .int 0, .int 0, .int 0, .ref (a 208), .ref (a 209), .ref (a 210), .ref (a 211), .ref (a 212), .int 4, .int 12, .int (-1), .int 0, .ref (g 200), .ref (a 213), .int 0, .int 97, .ref (a 214), .ref (a 215), .ref (a 207), .null, .int 0]))]) [1] (by decide) rfl
  have hFc := va_free (wc := [((a 200), .inr (21, [.int 1, .ref (a 201), .ref (a 202), .ref (a 203), .ref (a 204), .ref (a 205), .ref (a 206), .int 0, .int 0, .int 0, .int 0, .ref (a 208), .ref (a 209), .ref (a 210), .ref (a 211), .ref (a 212), .int 4, .int 12, .int (-1), .int 0, .ref (g 200), .ref (a 213), .int 0, .int 97, .ref (a 214), .ref (a 215), .ref (a 207), .null, .int 0]))]) hD hS hA [1] rfl
  refine va_calli (va_runV (As := []) (rest := []) ⟨hx, hb, hml, hown, ht⟩ (k_X15_thrown_v2 l D g z0 _ a) (cwV 0 ht (gV w_772 w_774 w_775 w_334 w_773) rfl rfl rfl (by decide +kernel) (le2 rfl rfl)) ⟨PP.blind, va_recv hK.1 hP (ci := 21) (q0 := 1) rfl rfl, PP.mk' hK hZ hz hAz hS hPc hDc⟩ rfl rfl hl.1 rfl (lv_room (Nat.le_of_ble_eq_true rfl)) dL_law_4076 (le2 rfl rfl)) hS (fun q _ h => hFc q h) hFc (fun r u t H locs ht1 hvm hw hB hz1 hk1 hS => ?_)
  obtain ⟨rfl, hw⟩ := hw
  obtain ⟨hP1, hD1⟩ := hB
  rw [ht1] at hP1
  obtain ⟨hP, hD⟩ := va_join (wr := [(o1, .inl (g 1, 1, .inr (.inl (fun _ => 0))))]) (w1 := [((a 200), .inr (21, [.int 1, .ref (a 201), .ref (a 202), .ref (a 203), .ref (a 204), .ref (a 205), .ref (a 206), .int 0, .int 0, .int 0, .int 0, .ref (a 208), .ref (a 209), .ref (a 210), .ref (a 211), .ref (a 212), .int 4, .int 12, .int (-1), .int 0, .ref (g 200), .ref (a 213), .int 0, .int 97, .ref (a 214), .ref (a 215), .ref (a 207), .null, .int 0]))]) hP hD [1] [0] rfl rfl (by decide) (by decide) hk1 hFc hP1 hD1
  have hP : va_P D vwCl [(o1, .inl (g 1, 1, .inr (.inl (fun _ => 0)))), ((a 200), .inr (21, [.int 1, .ref (a 201), .ref (a 202), .ref (a 203), .ref (a 204), .ref (a 205), .ref (a 206), .int 0, .int 0, .int 0, .int 0, .ref (a 208), .ref (a 209), .ref (a 210), .ref (a 211), .ref (a 212), .int 4, .int 12, .int (-1), .int 0, .ref (g 200), .ref (a 213), .int 0, .int 97, .ref (a 214), .ref (a 215), .ref (a 207), .null, .int 0]))] H := hP
  have hD : va_D (va_A [] s.heap.size) [(o1, .inl (g 1, 1, .inr (.inl (fun _ => 0)))), ((a 200), .inr (21, [.int 1, .ref (a 201), .ref (a 202), .ref (a 203), .ref (a 204), .ref (a 205), .ref (a 206), .int 0, .int 0, .int 0, .int 0, .ref (a 208), .ref (a 209), .ref (a 210), .ref (a 211), .ref (a 212), .int 4, .int 12, .int (-1), .int 0, .ref (g 200), .ref (a 213), .int 0, .int 97, .ref (a 214), .ref (a 215), .ref (a 207), .null, .int 0]))] := hD
  refine lv_iload hx hb dL_law_4079 (lv_at hl 1 rfl) ?_
  refine lv_icmp_eq (tgt := 4086) hx hb dL_law_4081 (by decide) (fun c_1 => ?_) (fun c_1 => ?_)
  · refine lv_iload hx hb dL_law_4086 (lv_at hl 1 rfl) ?_
    refine lv_if_ne (tgt := 4103) hx hb dL_law_4088 (by decide) (fun c_2 => ?_) (fun c_2 => ?_)
    · refine lv_goto (tgt := 4264) hx hb dL_law_4103 (by decide) ?_
      refine W.widen (k := 200 + 300) (n := 8000 + 2000) (Nat.le_of_ble_eq_true rfl) (Nat.le_of_ble_eq_true rfl) ?_
      exact kk _ _ _ hS (lv_sub hl [7, 2] rfl)
    · exact absurd c_2 (by decide)
  · exact absurd c_1 (by decide)
set_option maxHeartbeats 4000000 in
set_option maxRecDepth 100000 in
theorem lw_case_67 {p : Program} {l : Launch} {e : Env} {s : State} {m : MethodId} {below : List Frame} {meth : Method} {c : Code} {H : Heap} {locs : List Loc} {ls : Array Slot} {Q : State → Prop} {D : va_G} {g : Nat → ClassId} {z0 b : Nat} {xs : Nat → Int32} {a : Nat → Nat} {o1 o2 : Nat} (hfl : l.stackTraces = false) (hx : p.tables.exec = Jvm.exec) (hb : c.code = cL_law) (hml : c.maxLocals = 9) (hown : s.vm.findClass RL = some m.cls) (ht : ∀ w ∈ TG, w.before #[Value.ref b] s = true) (hX : va_X b 6 xs s s.heap) (hbl : b < s.heap.size) (hbA : ¬ va_A [] s.heap.size b) (hK : KK D g s) (hZ : ZZ g z0 s) (hz : z0 ≤ s.heap.size) (hAz : ∀ q, va_A [] s.heap.size q → z0 ≤ q) (hP : va_P D vwCl (lwW a g o1 o2) H) (hD : va_D (va_A [] s.heap.size) (lwW a g o1 o2)) (hS : va_S (va_A [] s.heap.size) s.heap H locs) (hl : lv_has ls 9 [(0, .ref b), (1, .ref (a 0)), (2, .ref (a 200)), (3, .ref o1), (4, .ref o2), (5, .int 0)])
    (kk : ∀ (H : Heap) (locs : List Loc) (ls : Array Slot), va_S (va_A [] s.heap.size) s.heap H locs → lv_has ls 9 [(5, .int 0), (0, .ref b)] → W p l e room_1 s m #[Value.ref b] below meth c H locs (200 + 300) (8000 + 2000) Q (F0 m 4264 ls [])) :
    W p l e room_1 s m #[Value.ref b] below meth c H locs 200 8000 Q (F0 m 4106 ls []) := by
  have hA : ∀ q : Nat, s.heap.size ≤ q → va_A [] s.heap.size q := Anw
  have hP := hP.sub (ws' := [((a 0), f_x a), ((a 11), f_cores a), ((a 200), f_m a g), ((a 207), .inr (5, [.int 0, .ref (g 100), .int 0])), (o1, .inl (g 1, 1, .inr (.inl (fun _ => 0))))]) [0, 25, 26, 33, 61] rfl
  have hD := hD.sub (ws' := [((a 0), f_x a), ((a 11), f_cores a), ((a 200), f_m a g), ((a 207), .inr (5, [.int 0, .ref (g 100), .int 0])), (o1, .inl (g 1, 1, .inr (.inl (fun _ => 0))))]) [0, 25, 26, 33, 61] (by decide) rfl
  refine lv_aload_n hx hb dL_law_4106 rfl (lv_at hl 1 rfl) ?_
  refine lv_aload_n hx hb dL_law_4107 rfl (lv_at hl 0 rfl) ?_
  refine lv_iload hx hb dL_law_4108 (lv_at hl 5 rfl) ?_
  refine lv_iconst (v := 1) hx hb dL_law_4110 (by decide) ?_
  refine lv_iadd hx hb dL_law_4111 ?_
  refine r_topi (v := 1) (by decide) ?_
  refine va_sld hx hb hX hbl hbA hS (by unfold vp_in; decide) dL_law_4112 ?_
  refine r_topi (v := xs 1) (congrArg xs (by decide)) ?_
  refine lv_aload_n hx hb dL_law_4113 rfl (lv_at hl 0 rfl) ?_
  refine lv_iload hx hb dL_law_4114 (lv_at hl 5 rfl) ?_
  refine lv_iconst (v := 2) hx hb dL_law_4116 (by decide) ?_
  refine lv_iadd hx hb dL_law_4117 ?_
  refine r_topi (v := 2) (by decide) ?_
  refine va_sld hx hb hX hbl hbA hS (by unfold vp_in; decide) dL_law_4118 ?_
  refine r_topi (v := xs 2) (congrArg xs (by decide)) ?_
  refine lv_aload_n hx hb dL_law_4119 rfl (lv_at hl 0 rfl) ?_
  refine lv_iload hx hb dL_law_4120 (lv_at hl 5 rfl) ?_
  refine lv_iconst (v := 3) hx hb dL_law_4122 (by decide) ?_
  refine lv_iadd hx hb dL_law_4123 ?_
  refine r_topi (v := 3) (by decide) ?_
  refine va_sld hx hb hX hbl hbA hS (by unfold vp_in; decide) dL_law_4124 ?_
  refine r_topi (v := xs 3) (congrArg xs (by decide)) ?_
  refine lv_aload_n hx hb dL_law_4125 rfl (lv_at hl 3 rfl) ?_
  have hPc : va_P D vwCl [(o1, .inl (g 1, 1, .inr (.inl (fun _ => 0)))), ((a 0), f_x a), ((a 11), f_cores a)] _ := hP.sub (ws' := [(o1, .inl (g 1, 1, .inr (.inl (fun _ => 0)))), ((a 0), f_x a), ((a 11), f_cores a)]) [4, 0, 1] rfl
  have hDc : va_D (fun q => z0 ≤ q) [(o1, .inl (g 1, 1, .inr (.inl (fun _ => 0)))), ((a 0), f_x a), ((a 11), f_cores a)] := (hD.to hAz).pick (ws' := [(o1, .inl (g 1, 1, .inr (.inl (fun _ => 0)))), ((a 0), f_x a), ((a 11), f_cores a)]) [4, 0, 1] (by decide) rfl
  have hFc := va_free (wc := [(o1, .inl (g 1, 1, .inr (.inl (fun _ => 0)))), ((a 0), f_x a), ((a 11), f_cores a)]) hD hS hA [4, 0, 1] rfl
  refine va_calli (vx_runSW (As := [.ref (a 0), .int (xs 1), .int (xs 2), .int (xs 3), .ref o1]) (rest := []) ⟨hx, hb, hml, hown, ht⟩ (k_L_begins l hfl D g z0 _ a (xs 1) (xs 2) (xs 3) o1) (vx_cwSW 5 ht (gS w_1206 w_1208 w_767 w_1207) rfl rfl rfl (by decide +kernel) (le2 rfl rfl)) ⟨PP.blind, PP.mk' hK hZ hz hAz hS hPc hDc⟩ rfl rfl hl.1 rfl (lv_room (Nat.le_of_ble_eq_true rfl)) dL_law_4126 (le2 rfl rfl)) hS (fun q _ h => hFc q h) hFc (fun r u t H locs ht1 hvm hw hB hz1 hk1 hS => ?_)
  obtain ⟨rfl, hw⟩ := hw
  obtain ⟨hP1, hD1⟩ := hB
  rw [ht1] at hP1
  obtain ⟨hP, hD⟩ := va_join (wr := [((a 200), f_m a g), ((a 207), .inr (5, [.int 0, .ref (g 100), .int 0]))]) (w1 := [(o1, .inl (g 1, 1, .inr (.inl (fun _ => 0))))]) hP hD [4, 0, 1] [2, 3] rfl rfl (by decide) (by decide) hk1 hFc hP1 hD1
  have hP : va_P D vwCl [((a 200), f_m a g), ((a 207), .inr (5, [.int 0, .ref (g 100), .int 0])), (o1, .inl (g 1, 1, .inr (.inl (fun _ => 0))))] H := hP
  have hD : va_D (va_A [] s.heap.size) [((a 200), f_m a g), ((a 207), .inr (5, [.int 0, .ref (g 100), .int 0])), (o1, .inl (g 1, 1, .inr (.inl (fun _ => 0))))] := hD
  refine lv_istore (lv' := [(6, .int 1), (0, .ref b), (1, .ref (a 0)), (2, .ref (a 200)), (3, .ref o1), (4, .ref o2), (5, .int 0)]) hx hb dL_law_4129 hl (by decide) rfl (fun ls hl => ?_)
  refine lv_aload_n hx hb dL_law_4131 rfl (lv_at hl 3 rfl) ?_
  refine lv_aload_n hx hb dL_law_4132 rfl (lv_at hl 1 rfl) ?_
  refine lv_iload hx hb dL_law_4133 (lv_at hl 6 rfl) ?_
  refine lv_iconst (v := 1) hx hb dL_law_4135 (by decide) ?_
  refine lv_iadd hx hb dL_law_4136 ?_
  refine r_topi (v := 1) (by decide) ?_
  refine va_sld hx hb hX hbl hbA hS (by unfold vp_in; decide) dL_law_4137 ?_
  refine r_topi (v := xs 1) (congrArg xs (by decide)) ?_
  refine lv_aload_n hx hb dL_law_4138 rfl (lv_at hl 1 rfl) ?_
  refine lv_iload hx hb dL_law_4139 (lv_at hl 6 rfl) ?_
  refine lv_iconst (v := 2) hx hb dL_law_4141 (by decide) ?_
  refine lv_iadd hx hb dL_law_4142 ?_
  refine r_topi (v := 2) (by decide) ?_
  refine va_sld hx hb hX hbl hbA hS (by unfold vp_in; decide) dL_law_4143 ?_
  refine r_topi (v := xs 2) (congrArg xs (by decide)) ?_
  refine lv_aload_n hx hb dL_law_4144 rfl (lv_at hl 1 rfl) ?_
  refine lv_iload hx hb dL_law_4145 (lv_at hl 6 rfl) ?_
  refine lv_iconst (v := 3) hx hb dL_law_4147 (by decide) ?_
  refine lv_iadd hx hb dL_law_4148 ?_
  refine r_topi (v := 3) (by decide) ?_
  refine va_sld hx hb hX hbl hbA hS (by unfold vp_in; decide) dL_law_4149 ?_
  refine r_topi (v := xs 3) (congrArg xs (by decide)) ?_
  have hPc : va_P D vwCl [((a 200), f_m a g), ((a 207), .inr (5, [.int 0, .ref (g 100), .int 0]))] _ := hP.sub (ws' := [((a 200), f_m a g), ((a 207), .inr (5, [.int 0, .ref (g 100), .int 0]))]) [0, 1] rfl
  have hDc : va_D (fun q => z0 ≤ q) [((a 200), f_m a g), ((a 207), .inr (5, [.int 0, .ref (g 100), .int 0]))] := (hD.to hAz).pick (ws' := [((a 200), f_m a g), ((a 207), .inr (5, [.int 0, .ref (g 100), .int 0]))]) [0, 1] (by decide) rfl
  have hFc := va_free (wc := [((a 200), f_m a g), ((a 207), .inr (5, [.int 0, .ref (g 100), .int 0]))]) hD hS hA [0, 1] rfl
  refine va_calli (va_runV (As := [.int (xs 1), .int (xs 2), .int (xs 3)]) (rest := []) ⟨hx, hb, hml, hown, ht⟩ (k_X15_begins l D g z0 _ a (xs 1) (xs 2) (xs 3)) (cwV 3 ht (gV w_1209 w_1211 w_1212 w_334 w_1210) rfl rfl rfl (by decide +kernel) (le2 rfl rfl)) ⟨PP.blind, va_recv hK.1 hP (ci := 21) (q0 := 0) rfl rfl, PP.mk' hK hZ hz hAz hS hPc hDc⟩ rfl rfl hl.1 rfl (lv_room (Nat.le_of_ble_eq_true rfl)) dL_law_4150 (le2 rfl rfl)) hS (fun q _ h => hFc q h) hFc (fun r u t H locs ht1 hvm hw hB hz1 hk1 hS => ?_)
  obtain ⟨rfl, hw⟩ := hw
  obtain ⟨hP1, hD1⟩ := hB
  rw [ht1] at hP1
  obtain ⟨hP, hD⟩ := va_join (wr := [(o1, .inl (g 1, 1, .inr (.inl (fun _ => 0))))]) (w1 := [((a 200), .inr (21, [.int 1, .ref (a 201), .ref (a 202), .ref (a 203), .ref (a 204), .ref (a 205), .ref (a 206), .int 0, .int 0, .int 0, .int 0, .ref (a 208), .ref (a 209), .ref (a 210), .ref (a 211), .ref (a 212), .int 4, .int 12, .int (-1), .int 0, .ref (g 200), .ref (a 213), .int 0, .int 97, .ref (a 214), .ref (a 215), .ref (a 207), .null, .int 0]))]) hP hD [0, 1] [2] rfl rfl (by decide) (by decide) hk1 hFc hP1 hD1
  have hP : va_P D vwCl [(o1, .inl (g 1, 1, .inr (.inl (fun _ => 0)))), ((a 200), .inr (21, [.int 1, .ref (a 201), .ref (a 202), .ref (a 203), .ref (a 204), .ref (a 205), .ref (a 206), .int 0, .int 0, .int 0, .int 0, .ref (a 208), .ref (a 209), .ref (a 210), .ref (a 211), .ref (a 212), .int 4, .int 12, .int (-1), .int 0, .ref (g 200), .ref (a 213), .int 0, .int 97, .ref (a 214), .ref (a 215), .ref (a 207), .null, .int 0]))] H := hP
  have hD : va_D (va_A [] s.heap.size) [(o1, .inl (g 1, 1, .inr (.inl (fun _ => 0)))), ((a 200), .inr (21, [.int 1, .ref (a 201), .ref (a 202), .ref (a 203), .ref (a 204), .ref (a 205), .ref (a 206), .int 0, .int 0, .int 0, .int 0, .ref (a 208), .ref (a 209), .ref (a 210), .ref (a 211), .ref (a 212), .int 4, .int 12, .int (-1), .int 0, .ref (g 200), .ref (a 213), .int 0, .int 97, .ref (a 214), .ref (a 215), .ref (a 207), .null, .int 0]))] := hD
  refine lv_istore (lv' := [(7, .int 0), (6, .int 1), (0, .ref b), (1, .ref (a 0)), (2, .ref (a 200)), (3, .ref o1), (4, .ref o2), (5, .int 0)]) hx hb dL_law_4153 hl (by decide) rfl (fun ls hl => ?_)
  refine lv_aload_n hx hb dL_law_4155 rfl (lv_at hl 4 rfl) ?_
  have hPc : va_P D vwCl [((a 200), .inr (21, [.int 1, .ref (a 201), .ref (a 202), .ref (a 203), .ref (a 204), .ref (a 205), .ref (a 206), .int 0, .int 0, .int 0, .int 0, .ref (a 208), .ref (a 209), .ref (a 210), .ref (a 211), .ref (a 212), .int 4, .int 12, .int (-1), .int 0, .ref (g 200), .ref (a 213), .int 0, .int 97, .ref (a 214), .ref (a 215), .ref (a 207), .null, .int 0]))] _ := hP.sub (ws' := [((a 200), .inr (21, [.int 1, .ref (a 201), .ref (a 202), .ref (a 203), .ref (a 204), .ref (a 205), .ref (a 206), .int 0, .int 0, .int 0, .int 0, .ref (a 208), .ref (a 209), .ref (a 210), .ref (a 211), .ref (a 212), .int 4, .int 12, .int (-1), .int 0, .ref (g 200), .ref (a 213), .int 0, .int 97, .ref (a 214), .ref (a 215), .ref (a 207), .null, .int 0]))]) [1] rfl
  have hDc : va_D (fun q => z0 ≤ q) [((a 200), .inr (21, [.int 1, .ref (a 201), .ref (a 202), .ref (a 203), .ref (a 204), .ref (a 205), .ref (a 206), .int 0, .int 0, .int 0, .int 0, .ref (a 208), .ref (a 209), .ref (a 210), .ref (a 211), .ref (a 212), .int 4, .int 12, .int (-1), .int 0, .ref (g 200), .ref (a 213), .int 0, .int 97, .ref (a 214), .ref (a 215), .ref (a 207), .null, .int 0]))] := (hD.to hAz).pick (ws' := [((a 200), .inr (21, [.int 1, .ref (a 201), .ref (a 202), .ref (a 203), .ref (a 204), .ref (a 205), .ref (a 206), .int 0, .int 0, .int 0, .int 0, .ref (a 208), .ref (a 209), .ref (a 210), .ref (a 211), .ref (a 212), .int 4, .int 12, .int (-1), .int 0, .ref (g 200), .ref (a 213), .int 0, .int 97, .ref (a 214), .ref (a 215), .ref (a 207), .null, .int 0]))]) [1] (by decide) rfl
  have hFc := va_free (wc := [((a 200), .inr (21, [.int 1, .ref (a 201), .ref (a 202), .ref (a 203), .ref (a 204), .ref (a 205), .ref (a 206), .int 0, .int 0, .int 0, .int 0, .ref (a 208), .ref (a 209), .ref (a 210), .ref (a 211), .ref (a 212), .int 4, .int 12, .int (-1), .int 0, .ref (g 200), .ref (a 213), .int 0, .int 97, .ref (a 214), .ref (a 215), .ref (a 207), .null, .int 0]))]) hD hS hA [1] rfl
  refine va_calli (va_runV (As := []) (rest := []) ⟨hx, hb, hml, hown, ht⟩ (k_X15_thrown_v2 l D g z0 _ a) (cwV 0 ht (gV w_772 w_774 w_775 w_334 w_773) rfl rfl rfl (by decide +kernel) (le2 rfl rfl)) ⟨PP.blind, va_recv hK.1 hP (ci := 21) (q0 := 1) rfl rfl, PP.mk' hK hZ hz hAz hS hPc hDc⟩ rfl rfl hl.1 rfl (lv_room (Nat.le_of_ble_eq_true rfl)) dL_law_4156 (le2 rfl rfl)) hS (fun q _ h => hFc q h) hFc (fun r u t H locs ht1 hvm hw hB hz1 hk1 hS => ?_)
  obtain ⟨rfl, hw⟩ := hw
  obtain ⟨hP1, hD1⟩ := hB
  rw [ht1] at hP1
  obtain ⟨hP, hD⟩ := va_join (wr := [(o1, .inl (g 1, 1, .inr (.inl (fun _ => 0))))]) (w1 := [((a 200), .inr (21, [.int 1, .ref (a 201), .ref (a 202), .ref (a 203), .ref (a 204), .ref (a 205), .ref (a 206), .int 0, .int 0, .int 0, .int 0, .ref (a 208), .ref (a 209), .ref (a 210), .ref (a 211), .ref (a 212), .int 4, .int 12, .int (-1), .int 0, .ref (g 200), .ref (a 213), .int 0, .int 97, .ref (a 214), .ref (a 215), .ref (a 207), .null, .int 0]))]) hP hD [1] [0] rfl rfl (by decide) (by decide) hk1 hFc hP1 hD1
  have hP : va_P D vwCl [(o1, .inl (g 1, 1, .inr (.inl (fun _ => 0)))), ((a 200), .inr (21, [.int 1, .ref (a 201), .ref (a 202), .ref (a 203), .ref (a 204), .ref (a 205), .ref (a 206), .int 0, .int 0, .int 0, .int 0, .ref (a 208), .ref (a 209), .ref (a 210), .ref (a 211), .ref (a 212), .int 4, .int 12, .int (-1), .int 0, .ref (g 200), .ref (a 213), .int 0, .int 97, .ref (a 214), .ref (a 215), .ref (a 207), .null, .int 0]))] H := hP
  have hD : va_D (va_A [] s.heap.size) [(o1, .inl (g 1, 1, .inr (.inl (fun _ => 0)))), ((a 200), .inr (21, [.int 1, .ref (a 201), .ref (a 202), .ref (a 203), .ref (a 204), .ref (a 205), .ref (a 206), .int 0, .int 0, .int 0, .int 0, .ref (a 208), .ref (a 209), .ref (a 210), .ref (a 211), .ref (a 212), .int 4, .int 12, .int (-1), .int 0, .ref (g 200), .ref (a 213), .int 0, .int 97, .ref (a 214), .ref (a 215), .ref (a 207), .null, .int 0]))] := hD
  refine lv_iload hx hb dL_law_4159 (lv_at hl 1 rfl) ?_
  refine lv_icmp_eq (tgt := 4166) hx hb dL_law_4161 (by decide) (fun c_1 => ?_) (fun c_1 => ?_)
  · refine lv_iload hx hb dL_law_4166 (lv_at hl 1 rfl) ?_
    refine lv_if_ne (tgt := 4183) hx hb dL_law_4168 (by decide) (fun c_2 => ?_) (fun c_2 => ?_)
    · refine lv_goto (tgt := 4264) hx hb dL_law_4183 (by decide) ?_
      refine W.widen (k := 200 + 300) (n := 8000 + 2000) (Nat.le_of_ble_eq_true rfl) (Nat.le_of_ble_eq_true rfl) ?_
      exact kk _ _ _ hS (lv_sub hl [7, 2] rfl)
    · exact absurd c_2 (by decide)
  · exact absurd c_1 (by decide)
set_option maxHeartbeats 4000000 in
set_option maxRecDepth 100000 in
theorem lw_case_68 {p : Program} {l : Launch} {e : Env} {s : State} {m : MethodId} {below : List Frame} {meth : Method} {c : Code} {H : Heap} {locs : List Loc} {ls : Array Slot} {Q : State → Prop} {D : va_G} {g : Nat → ClassId} {z0 b : Nat} {xs : Nat → Int32} {a : Nat → Nat} {o1 o2 : Nat} (hfl : l.stackTraces = false) (hx : p.tables.exec = Jvm.exec) (hb : c.code = cL_law) (hml : c.maxLocals = 9) (hown : s.vm.findClass RL = some m.cls) (ht : ∀ w ∈ TG, w.before #[Value.ref b] s = true) (hX : va_X b 6 xs s s.heap) (hbl : b < s.heap.size) (hbA : ¬ va_A [] s.heap.size b) (hK : KK D g s) (hZ : ZZ g z0 s) (hz : z0 ≤ s.heap.size) (hAz : ∀ q, va_A [] s.heap.size q → z0 ≤ q) (hP : va_P D vwCl (lwW a g o1 o2) H) (hD : va_D (va_A [] s.heap.size) (lwW a g o1 o2)) (hS : va_S (va_A [] s.heap.size) s.heap H locs) (hl : lv_has ls 9 [(0, .ref b), (1, .ref (a 0)), (2, .ref (a 200)), (3, .ref o1), (4, .ref o2), (5, .int 0)])
    (kk : ∀ (H : Heap) (locs : List Loc) (ls : Array Slot), va_S (va_A [] s.heap.size) s.heap H locs → lv_has ls 9 [(5, .int 0), (0, .ref b)] → W p l e room_1 s m #[Value.ref b] below meth c H locs (200 + 300) (8000 + 2000) Q (F0 m 4264 ls [])) :
    W p l e room_1 s m #[Value.ref b] below meth c H locs 200 8000 Q (F0 m 4186 ls []) := by
  have hA : ∀ q : Nat, s.heap.size ≤ q → va_A [] s.heap.size q := Anw
  have hP := hP.sub (ws' := [((a 0), f_x a), ((a 2), f_book a), ((a 200), f_m a g), ((a 201), .inr (5, [.int 0, .ref (g 100), .int 0])), (o2, .inl (g 4, 1, .inr (.inr (.inr (.inl (fun _ => 0))))))]) [0, 6, 26, 27, 62] rfl
  have hD := hD.sub (ws' := [((a 0), f_x a), ((a 2), f_book a), ((a 200), f_m a g), ((a 201), .inr (5, [.int 0, .ref (g 100), .int 0])), (o2, .inl (g 4, 1, .inr (.inr (.inr (.inl (fun _ => 0))))))]) [0, 6, 26, 27, 62] (by decide) rfl
  refine lv_aload_n hx hb dL_law_4186 rfl (lv_at hl 1 rfl) ?_
  refine lv_aload hx hb dL_law_4187 (lv_at hl 4 rfl) ?_
  have hPc : va_P D vwCl [(o2, .inl (g 4, 1, .inr (.inr (.inr (.inl (fun _ => 0)))))), ((a 0), f_x a), ((a 2), f_book a)] _ := hP.sub (ws' := [(o2, .inl (g 4, 1, .inr (.inr (.inr (.inl (fun _ => 0)))))), ((a 0), f_x a), ((a 2), f_book a)]) [4, 0, 1] rfl
  have hDc : va_D (fun q => z0 ≤ q) [(o2, .inl (g 4, 1, .inr (.inr (.inr (.inl (fun _ => 0)))))), ((a 0), f_x a), ((a 2), f_book a)] := (hD.to hAz).pick (ws' := [(o2, .inl (g 4, 1, .inr (.inr (.inr (.inl (fun _ => 0)))))), ((a 0), f_x a), ((a 2), f_book a)]) [4, 0, 1] (by decide) rfl
  have hFc := va_free (wc := [(o2, .inl (g 4, 1, .inr (.inr (.inr (.inl (fun _ => 0)))))), ((a 0), f_x a), ((a 2), f_book a)]) hD hS hA [4, 0, 1] rfl
  refine va_calli (vx_runSW (As := [.ref (a 0), .ref o2]) (rest := []) ⟨hx, hb, hml, hown, ht⟩ (k_L_meanFound l hfl D g z0 _ a o2) (vx_cwSW 2 ht (gS w_1213 w_1215 w_767 w_1214) rfl rfl rfl (by decide +kernel) (le2 rfl rfl)) ⟨PP.blind, PP.mk' hK hZ hz hAz hS hPc hDc⟩ rfl rfl hl.1 rfl (lv_room (Nat.le_of_ble_eq_true rfl)) dL_law_4189 (le2 rfl rfl)) hS (fun q _ h => hFc q h) hFc (fun r u t H locs ht1 hvm hw hB hz1 hk1 hS => ?_)
  obtain ⟨rfl, hw⟩ := hw
  obtain ⟨hP1, hD1⟩ := hB
  rw [ht1] at hP1
  obtain ⟨hP, hD⟩ := va_join (wr := [((a 200), f_m a g), ((a 201), .inr (5, [.int 0, .ref (g 100), .int 0]))]) (w1 := [(o2, .inl (g 4, 1, .inr (.inr (.inr (.inl (fun _ => 0))))))]) hP hD [4, 0, 1] [2, 3] rfl rfl (by decide) (by decide) hk1 hFc hP1 hD1
  have hP : va_P D vwCl [((a 200), f_m a g), ((a 201), .inr (5, [.int 0, .ref (g 100), .int 0])), (o2, .inl (g 4, 1, .inr (.inr (.inr (.inl (fun _ => 0))))))] H := hP
  have hD : va_D (va_A [] s.heap.size) [((a 200), f_m a g), ((a 201), .inr (5, [.int 0, .ref (g 100), .int 0])), (o2, .inl (g 4, 1, .inr (.inr (.inr (.inl (fun _ => 0))))))] := hD
  refine lv_istore (lv' := [(6, .int 1), (0, .ref b), (1, .ref (a 0)), (2, .ref (a 200)), (3, .ref o1), (4, .ref o2), (5, .int 0)]) hx hb dL_law_4192 hl (by decide) rfl (fun ls hl => ?_)
  refine lv_aload_n hx hb dL_law_4194 rfl (lv_at hl 3 rfl) ?_
  have hPc : va_P D vwCl [((a 200), f_m a g), ((a 201), .inr (5, [.int 0, .ref (g 100), .int 0]))] _ := hP.sub (ws' := [((a 200), f_m a g), ((a 201), .inr (5, [.int 0, .ref (g 100), .int 0]))]) [0, 1] rfl
  have hDc : va_D (fun q => z0 ≤ q) [((a 200), f_m a g), ((a 201), .inr (5, [.int 0, .ref (g 100), .int 0]))] := (hD.to hAz).pick (ws' := [((a 200), f_m a g), ((a 201), .inr (5, [.int 0, .ref (g 100), .int 0]))]) [0, 1] (by decide) rfl
  have hFc := va_free (wc := [((a 200), f_m a g), ((a 201), .inr (5, [.int 0, .ref (g 100), .int 0]))]) hD hS hA [0, 1] rfl
  refine va_calld (va_runV (As := []) (rest := []) ⟨hx, hb, hml, hown, ht⟩ (k_X15_meanFound l D g z0 _ a) (cwV 0 ht (gV w_1216 w_1218 w_1219 w_334 w_1217) rfl rfl rfl (by decide +kernel) (le2 rfl rfl)) ⟨PP.blind, va_recv hK.1 hP (ci := 21) (q0 := 0) rfl rfl, PP.mk' hK hZ hz hAz hS hPc hDc⟩ rfl rfl hl.1 rfl (lv_room (Nat.le_of_ble_eq_true rfl)) dL_law_4195 (le2 rfl rfl)) hS (fun q _ h => hFc q h) hFc (fun r u t H locs ht1 hvm hw hB hz1 hk1 hS => ?_)
  obtain ⟨hP1, hD1⟩ := hB
  rw [ht1] at hP1
  obtain ⟨hP, hD⟩ := va_join (wr := [(o2, .inl (g 4, 1, .inr (.inr (.inr (.inl (fun _ => 0))))))]) (w1 := [((a 200), .inr (21, [.int 1, .ref (a 201), .ref (a 202), .ref (a 203), .ref (a 204), .ref (a 205), .ref (a 206), .int 0, .int 0, .int 0, .int 0, .ref (a 208), .ref (a 209), .ref (a 210), .ref (a 211), .ref (a 212), .int 4, .int 12, .int (-1), .int 0, .ref (g 200), .ref (a 213), .int 0, .int 97, .ref (a 214), .ref (a 215), .ref (a 207), .null, .int 0]))]) hP hD [0, 1] [2] rfl rfl (by decide) (by decide) hk1 hFc hP1 hD1
  have hP : va_P D vwCl [(o2, .inl (g 4, 1, .inr (.inr (.inr (.inl (fun _ => 0)))))), ((a 200), .inr (21, [.int 1, .ref (a 201), .ref (a 202), .ref (a 203), .ref (a 204), .ref (a 205), .ref (a 206), .int 0, .int 0, .int 0, .int 0, .ref (a 208), .ref (a 209), .ref (a 210), .ref (a 211), .ref (a 212), .int 4, .int 12, .int (-1), .int 0, .ref (g 200), .ref (a 213), .int 0, .int 97, .ref (a 214), .ref (a 215), .ref (a 207), .null, .int 0]))] H := hP
  have hD : va_D (va_A [] s.heap.size) [(o2, .inl (g 4, 1, .inr (.inr (.inr (.inl (fun _ => 0)))))), ((a 200), .inr (21, [.int 1, .ref (a 201), .ref (a 202), .ref (a 203), .ref (a 204), .ref (a 205), .ref (a 206), .int 0, .int 0, .int 0, .int 0, .ref (a 208), .ref (a 209), .ref (a 210), .ref (a 211), .ref (a 212), .int 4, .int 12, .int (-1), .int 0, .ref (g 200), .ref (a 213), .int 0, .int 97, .ref (a 214), .ref (a 215), .ref (a 207), .null, .int 0]))] := hD
  refine lv_dstore (lv' := [(7, .double r), (6, .int 1), (0, .ref b), (1, .ref (a 0)), (2, .ref (a 200)), (3, .ref o1), (4, .ref o2), (5, .int 0)]) hx hb dL_law_4198 hl (by decide) rfl (fun ls hl => ?_)
  refine lv_aload_n hx hb dL_law_4200 rfl (lv_at hl 4 rfl) ?_
  have hPc : va_P D vwCl [((a 200), .inr (21, [.int 1, .ref (a 201), .ref (a 202), .ref (a 203), .ref (a 204), .ref (a 205), .ref (a 206), .int 0, .int 0, .int 0, .int 0, .ref (a 208), .ref (a 209), .ref (a 210), .ref (a 211), .ref (a 212), .int 4, .int 12, .int (-1), .int 0, .ref (g 200), .ref (a 213), .int 0, .int 97, .ref (a 214), .ref (a 215), .ref (a 207), .null, .int 0]))] _ := hP.sub (ws' := [((a 200), .inr (21, [.int 1, .ref (a 201), .ref (a 202), .ref (a 203), .ref (a 204), .ref (a 205), .ref (a 206), .int 0, .int 0, .int 0, .int 0, .ref (a 208), .ref (a 209), .ref (a 210), .ref (a 211), .ref (a 212), .int 4, .int 12, .int (-1), .int 0, .ref (g 200), .ref (a 213), .int 0, .int 97, .ref (a 214), .ref (a 215), .ref (a 207), .null, .int 0]))]) [1] rfl
  have hDc : va_D (fun q => z0 ≤ q) [((a 200), .inr (21, [.int 1, .ref (a 201), .ref (a 202), .ref (a 203), .ref (a 204), .ref (a 205), .ref (a 206), .int 0, .int 0, .int 0, .int 0, .ref (a 208), .ref (a 209), .ref (a 210), .ref (a 211), .ref (a 212), .int 4, .int 12, .int (-1), .int 0, .ref (g 200), .ref (a 213), .int 0, .int 97, .ref (a 214), .ref (a 215), .ref (a 207), .null, .int 0]))] := (hD.to hAz).pick (ws' := [((a 200), .inr (21, [.int 1, .ref (a 201), .ref (a 202), .ref (a 203), .ref (a 204), .ref (a 205), .ref (a 206), .int 0, .int 0, .int 0, .int 0, .ref (a 208), .ref (a 209), .ref (a 210), .ref (a 211), .ref (a 212), .int 4, .int 12, .int (-1), .int 0, .ref (g 200), .ref (a 213), .int 0, .int 97, .ref (a 214), .ref (a 215), .ref (a 207), .null, .int 0]))]) [1] (by decide) rfl
  have hFc := va_free (wc := [((a 200), .inr (21, [.int 1, .ref (a 201), .ref (a 202), .ref (a 203), .ref (a 204), .ref (a 205), .ref (a 206), .int 0, .int 0, .int 0, .int 0, .ref (a 208), .ref (a 209), .ref (a 210), .ref (a 211), .ref (a 212), .int 4, .int 12, .int (-1), .int 0, .ref (g 200), .ref (a 213), .int 0, .int 97, .ref (a 214), .ref (a 215), .ref (a 207), .null, .int 0]))]) hD hS hA [1] rfl
  refine va_calli (va_runV (As := []) (rest := []) ⟨hx, hb, hml, hown, ht⟩ (k_X15_thrown_v2 l D g z0 _ a) (cwV 0 ht (gV w_772 w_774 w_775 w_334 w_773) rfl rfl rfl (by decide +kernel) (le2 rfl rfl)) ⟨PP.blind, va_recv hK.1 hP (ci := 21) (q0 := 1) rfl rfl, PP.mk' hK hZ hz hAz hS hPc hDc⟩ rfl rfl hl.1 rfl (lv_room (Nat.le_of_ble_eq_true rfl)) dL_law_4201 (le2 rfl rfl)) hS (fun q _ h => hFc q h) hFc (fun r u t H locs ht1 hvm hw hB hz1 hk1 hS => ?_)
  obtain ⟨rfl, hw⟩ := hw
  obtain ⟨hP1, hD1⟩ := hB
  rw [ht1] at hP1
  obtain ⟨hP, hD⟩ := va_join (wr := [(o2, .inl (g 4, 1, .inr (.inr (.inr (.inl (fun _ => 0))))))]) (w1 := [((a 200), .inr (21, [.int 1, .ref (a 201), .ref (a 202), .ref (a 203), .ref (a 204), .ref (a 205), .ref (a 206), .int 0, .int 0, .int 0, .int 0, .ref (a 208), .ref (a 209), .ref (a 210), .ref (a 211), .ref (a 212), .int 4, .int 12, .int (-1), .int 0, .ref (g 200), .ref (a 213), .int 0, .int 97, .ref (a 214), .ref (a 215), .ref (a 207), .null, .int 0]))]) hP hD [1] [0] rfl rfl (by decide) (by decide) hk1 hFc hP1 hD1
  have hP : va_P D vwCl [(o2, .inl (g 4, 1, .inr (.inr (.inr (.inl (fun _ => 0)))))), ((a 200), .inr (21, [.int 1, .ref (a 201), .ref (a 202), .ref (a 203), .ref (a 204), .ref (a 205), .ref (a 206), .int 0, .int 0, .int 0, .int 0, .ref (a 208), .ref (a 209), .ref (a 210), .ref (a 211), .ref (a 212), .int 4, .int 12, .int (-1), .int 0, .ref (g 200), .ref (a 213), .int 0, .int 97, .ref (a 214), .ref (a 215), .ref (a 207), .null, .int 0]))] H := hP
  have hD : va_D (va_A [] s.heap.size) [(o2, .inl (g 4, 1, .inr (.inr (.inr (.inl (fun _ => 0)))))), ((a 200), .inr (21, [.int 1, .ref (a 201), .ref (a 202), .ref (a 203), .ref (a 204), .ref (a 205), .ref (a 206), .int 0, .int 0, .int 0, .int 0, .ref (a 208), .ref (a 209), .ref (a 210), .ref (a 211), .ref (a 212), .int 4, .int 12, .int (-1), .int 0, .ref (g 200), .ref (a 213), .int 0, .int 97, .ref (a 214), .ref (a 215), .ref (a 207), .null, .int 0]))] := hD
  refine lv_iload hx hb dL_law_4204 (lv_at hl 1 rfl) ?_
  refine lv_icmp_eq (tgt := 4211) hx hb dL_law_4206 (by decide) (fun c_1 => ?_) (fun c_1 => ?_)
  · refine lv_iload hx hb dL_law_4211 (lv_at hl 1 rfl) ?_
    refine lv_if_ne (tgt := 4248) hx hb dL_law_4213 (by decide) (fun c_2 => ?_) (fun c_2 => ?_)
    · refine lv_goto (tgt := 4264) hx hb dL_law_4248 (by decide) ?_
      refine W.widen (k := 200 + 300) (n := 8000 + 2000) (Nat.le_of_ble_eq_true rfl) (Nat.le_of_ble_eq_true rfl) ?_
      exact kk _ _ _ hS (lv_sub hl [7, 2] rfl)
    · exact absurd c_2 (by decide)
  · exact absurd c_1 (by decide)
set_option maxHeartbeats 4000000 in
set_option maxRecDepth 100000 in
theorem lw_case_69 {p : Program} {l : Launch} {e : Env} {s : State} {m : MethodId} {below : List Frame} {meth : Method} {c : Code} {H : Heap} {locs : List Loc} {ls : Array Slot} {Q : State → Prop} {D : va_G} {g : Nat → ClassId} {z0 b : Nat} {xs : Nat → Int32} {a : Nat → Nat} {o1 o2 : Nat} (hfl : l.stackTraces = false) (hx : p.tables.exec = Jvm.exec) (hb : c.code = cL_law) (hml : c.maxLocals = 9) (hown : s.vm.findClass RL = some m.cls) (ht : ∀ w ∈ TG, w.before #[Value.ref b] s = true) (hX : va_X b 6 xs s s.heap) (hbl : b < s.heap.size) (hbA : ¬ va_A [] s.heap.size b) (hK : KK D g s) (hZ : ZZ g z0 s) (hz : z0 ≤ s.heap.size) (hAz : ∀ q, va_A [] s.heap.size q → z0 ≤ q) (hP : va_P D vwCl (lwW a g o1 o2) H) (hD : va_D (va_A [] s.heap.size) (lwW a g o1 o2)) (hS : va_S (va_A [] s.heap.size) s.heap H locs) (hl : lv_has ls 9 [(0, .ref b), (1, .ref (a 0)), (2, .ref (a 200)), (3, .ref o1), (4, .ref o2), (5, .int 0)])
    (kk : ∀ (H : Heap) (locs : List Loc) (ls : Array Slot), va_S (va_A [] s.heap.size) s.heap H locs → lv_has ls 9 [(5, .int 0), (0, .ref b)] → W p l e room_1 s m #[Value.ref b] below meth c H locs (200 + 300) (8000 + 2000) Q (F0 m 4264 ls [])) :
    W p l e room_1 s m #[Value.ref b] below meth c H locs 200 8000 Q (F0 m 4251 ls []) := by
  have hA : ∀ q : Nat, s.heap.size ≤ q → va_A [] s.heap.size q := Anw
  have hP := hP.sub (ws' := [((a 0), f_x a), ((a 1), f_net a), ((a 2), f_book a), ((a 3), f_rows a), ((a 38), .inl (g 1, 12, .inr (.inl (fun _ => 0)))), ((a 39), .inl (g 1, 12, .inr (.inl (fun _ => 0)))), ((a 47), .inl (g 0, 256, .inl (fun _ => 0))), ((a 4), f_words a), ((a 8), f_chip a), ((a 200), f_m a g)]) [0, 5, 6, 7, 8, 9, 10, 11, 15, 26] rfl
  have hD := hD.sub (ws' := [((a 0), f_x a), ((a 1), f_net a), ((a 2), f_book a), ((a 3), f_rows a), ((a 38), .inl (g 1, 12, .inr (.inl (fun _ => 0)))), ((a 39), .inl (g 1, 12, .inr (.inl (fun _ => 0)))), ((a 47), .inl (g 0, 256, .inl (fun _ => 0))), ((a 4), f_words a), ((a 8), f_chip a), ((a 200), f_m a g)]) [0, 5, 6, 7, 8, 9, 10, 11, 15, 26] (by decide) rfl
  refine lv_aload_n hx hb dL_law_4251 rfl (lv_at hl 1 rfl) ?_
  have hPc : va_P D vwCl [((a 0), f_x a), ((a 3), f_rows a), ((a 4), f_words a), ((a 38), .inl (g 1, 12, .inr (.inl (fun _ => 0)))), ((a 39), .inl (g 1, 12, .inr (.inl (fun _ => 0)))), ((a 1), f_net a), ((a 2), f_book a), ((a 47), .inl (g 0, 256, .inl (fun _ => 0))), ((a 8), f_chip a)] _ := hP.sub (ws' := [((a 0), f_x a), ((a 3), f_rows a), ((a 4), f_words a), ((a 38), .inl (g 1, 12, .inr (.inl (fun _ => 0)))), ((a 39), .inl (g 1, 12, .inr (.inl (fun _ => 0)))), ((a 1), f_net a), ((a 2), f_book a), ((a 47), .inl (g 0, 256, .inl (fun _ => 0))), ((a 8), f_chip a)]) [0, 3, 7, 4, 5, 1, 2, 6, 8] rfl
  have hDc : va_D (fun q => z0 ≤ q) [((a 0), f_x a), ((a 3), f_rows a), ((a 4), f_words a), ((a 38), .inl (g 1, 12, .inr (.inl (fun _ => 0)))), ((a 39), .inl (g 1, 12, .inr (.inl (fun _ => 0)))), ((a 1), f_net a), ((a 2), f_book a), ((a 47), .inl (g 0, 256, .inl (fun _ => 0))), ((a 8), f_chip a)] := (hD.to hAz).pick (ws' := [((a 0), f_x a), ((a 3), f_rows a), ((a 4), f_words a), ((a 38), .inl (g 1, 12, .inr (.inl (fun _ => 0)))), ((a 39), .inl (g 1, 12, .inr (.inl (fun _ => 0)))), ((a 1), f_net a), ((a 2), f_book a), ((a 47), .inl (g 0, 256, .inl (fun _ => 0))), ((a 8), f_chip a)]) [0, 3, 7, 4, 5, 1, 2, 6, 8] (by decide) rfl
  have hFc := va_free (wc := [((a 0), f_x a), ((a 3), f_rows a), ((a 4), f_words a), ((a 38), .inl (g 1, 12, .inr (.inl (fun _ => 0)))), ((a 39), .inl (g 1, 12, .inr (.inl (fun _ => 0)))), ((a 1), f_net a), ((a 2), f_book a), ((a 47), .inl (g 0, 256, .inl (fun _ => 0))), ((a 8), f_chip a)]) hD hS hA [0, 3, 7, 4, 5, 1, 2, 6, 8] rfl
  refine va_calli (va_runV (As := []) (rest := []) ⟨hx, hb, hml, hown, ht⟩ (k_X11_isSound l D g z0 _ a) (cwV 0 ht (gV w_1220 w_1222 w_1223 w_31 w_1221) rfl rfl rfl (by decide +kernel) (le2 rfl rfl)) ⟨PP.blind, va_recv hK.1 hP (ci := 17) (q0 := 0) rfl rfl, PP.mk' hK hZ hz hAz hS hPc hDc⟩ rfl rfl hl.1 rfl (lv_room (Nat.le_of_ble_eq_true rfl)) dL_law_4252 (le2 rfl rfl)) hS (fun q _ h => hFc q h) hFc (fun r u t H locs ht1 hvm hw hB hz1 hk1 hS => ?_)
  obtain ⟨rfl, hw⟩ := hw
  obtain ⟨hP1, hD1⟩ := hB
  rw [ht1] at hP1
  obtain ⟨hP, hD⟩ := va_join (wr := [((a 200), f_m a g)]) (w1 := []) hP hD [0, 3, 7, 4, 5, 1, 2, 6, 8] [9] rfl rfl (by decide) (by decide) hk1 hFc hP1 hD1
  have hP : va_P D vwCl [((a 200), f_m a g)] H := hP
  have hD : va_D (va_A [] s.heap.size) [((a 200), f_m a g)] := hD
  refine lv_aload_n hx hb dL_law_4255 rfl (lv_at hl 2 rfl) ?_
  have hPc : va_P D vwCl [((a 200), f_m a g)] _ := hP.sub (ws' := [((a 200), f_m a g)]) [0] rfl
  have hDc : va_D (fun q => z0 ≤ q) [((a 200), f_m a g)] := (hD.to hAz).pick (ws' := [((a 200), f_m a g)]) [0] (by decide) rfl
  have hFc := va_free (wc := [((a 200), f_m a g)]) hD hS hA [0] rfl
  refine va_calli (va_runV (As := []) (rest := [.int 1]) ⟨hx, hb, hml, hown, ht⟩ (k_X15_isSound l D g z0 _ a) (cwV 0 ht (gV w_1224 w_1226 w_1227 w_334 w_1225) rfl rfl rfl (by decide +kernel) (le2 rfl rfl)) ⟨PP.blind, va_recv hK.1 hP (ci := 21) (q0 := 0) rfl rfl, PP.mk' hK hZ hz hAz hS hPc hDc⟩ rfl rfl hl.1 rfl (lv_room (Nat.le_of_ble_eq_true rfl)) dL_law_4256 (le2 rfl rfl)) hS (fun q _ h => hFc q h) hFc (fun r u t H locs ht1 hvm hw hB hz1 hk1 hS => ?_)
  obtain ⟨rfl, hw⟩ := hw
  obtain ⟨hP1, hD1⟩ := hB
  rw [ht1] at hP1
  obtain ⟨hP, hD⟩ := va_join (wr := []) (w1 := [((a 200), f_m a g)]) hP hD [0] [] rfl rfl (by decide) (by decide) hk1 hFc hP1 hD1
  have hP : va_P D vwCl [((a 200), f_m a g)] H := hP
  have hD : va_D (va_A [] s.heap.size) [((a 200), f_m a g)] := hD
  refine lv_icmp_eq (tgt := 4264) hx hb dL_law_4259 (by decide) (fun c_1 => ?_) (fun c_1 => ?_)
  · refine W.widen (k := 200 + 300) (n := 8000 + 2000) (Nat.le_of_ble_eq_true rfl) (Nat.le_of_ble_eq_true rfl) ?_
    exact kk _ _ _ hS (lv_sub hl [5, 0] rfl)
  · exact absurd c_1 (by decide)
