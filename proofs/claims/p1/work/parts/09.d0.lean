theorem w_1228 : Cond.methodLink RL 407 yL_marchFinds ∈ TG := tg (sg_8 _ (List.mem_of_getElem? (i := 85) (by decide +kernel))) (by decide +kernel)
theorem w_1229 : Cond.codeWith yL_marchFinds cL_marchFinds 8 (some .int) [(0, 23, 26, 24), (0, 23, 30, 13)] ∈ TG := tg (sg_8 _ (List.mem_of_getElem? (i := 87) (by decide +kernel))) (by decide +kernel)
theorem w_1230 : Cond.static yL_marchFinds ∈ TG := tg (sg_8 _ (List.mem_of_getElem? (i := 86) (by decide +kernel))) (by decide +kernel)
theorem w_1231 : Cond.methodLink RL 410 yX15_marchFinds ∈ TG := tg (sg_14 _ (List.mem_of_getElem? (i := 107) (by decide +kernel))) (by decide +kernel)
theorem w_1232 : Cond.code yX15_marchFinds cX15_marchFinds 9 (some .boolean) ∈ TG := tg (sg_14 _ (List.mem_of_getElem? (i := 110) (by decide +kernel))) (by decide +kernel)
theorem w_1233 : Cond.instanceMethod yX15_marchFinds ∈ TG := tg (sg_14 _ (List.mem_of_getElem? (i := 108) (by decide +kernel))) (by decide +kernel)
theorem w_1234 : Cond.selects RX15 yX15_marchFinds yX15_marchFinds ∈ TG := tg (sg_14 _ (List.mem_of_getElem? (i := 109) (by decide +kernel))) (by decide +kernel)
theorem dL_law_3212 : decode cL_law 3212 = .ok (.aload_n 1, 1) := by decide +kernel
theorem dL_law_3213 : decode cL_law 3213 = .ok (.aload_n 0, 1) := by decide +kernel
theorem dL_law_3214 : decode cL_law 3214 = .ok (.iload 5, 2) := by decide +kernel
theorem dL_law_3216 : decode cL_law 3216 = .ok (.iconst 1, 1) := by decide +kernel
theorem dL_law_3217 : decode cL_law 3217 = .ok (.iadd, 1) := by decide +kernel
theorem dL_law_3218 : decode cL_law 3218 = .ok (.iaload, 1) := by decide +kernel
theorem dL_law_3219 : decode cL_law 3219 = .ok (.i2c, 1) := by decide +kernel
theorem dL_law_3220 : decode cL_law 3220 = .ok (.aload_n 0, 1) := by decide +kernel
theorem dL_law_3221 : decode cL_law 3221 = .ok (.iload 5, 2) := by decide +kernel
theorem dL_law_3223 : decode cL_law 3223 = .ok (.iconst 2, 1) := by decide +kernel
theorem dL_law_3224 : decode cL_law 3224 = .ok (.iadd, 1) := by decide +kernel
theorem dL_law_3225 : decode cL_law 3225 = .ok (.iaload, 1) := by decide +kernel
theorem dL_law_3226 : decode cL_law 3226 = .ok (.aload_n 0, 1) := by decide +kernel
theorem dL_law_3227 : decode cL_law 3227 = .ok (.iload 5, 2) := by decide +kernel
theorem dL_law_3229 : decode cL_law 3229 = .ok (.iconst 3, 1) := by decide +kernel
theorem dL_law_3230 : decode cL_law 3230 = .ok (.iadd, 1) := by decide +kernel
theorem dL_law_3231 : decode cL_law 3231 = .ok (.iaload, 1) := by decide +kernel
theorem dL_law_3232 : decode cL_law 3232 = .ok (.aload_n 0, 1) := by decide +kernel
theorem dL_law_3233 : decode cL_law 3233 = .ok (.iload 5, 2) := by decide +kernel
theorem dL_law_3235 : decode cL_law 3235 = .ok (.iconst 4, 1) := by decide +kernel
theorem dL_law_3236 : decode cL_law 3236 = .ok (.iadd, 1) := by decide +kernel
theorem dL_law_3237 : decode cL_law 3237 = .ok (.iaload, 1) := by decide +kernel
theorem dL_law_3238 : decode cL_law 3238 = .ok (.aload_n 0, 1) := by decide +kernel
theorem dL_law_3239 : decode cL_law 3239 = .ok (.iload 5, 2) := by decide +kernel
theorem dL_law_3241 : decode cL_law 3241 = .ok (.iconst 5, 1) := by decide +kernel
theorem dL_law_3242 : decode cL_law 3242 = .ok (.iadd, 1) := by decide +kernel
theorem dL_law_3243 : decode cL_law 3243 = .ok (.iaload, 1) := by decide +kernel
theorem dL_law_3244 : decode cL_law 3244 = .ok (.aload_n 3, 1) := by decide +kernel
theorem dL_law_3245 : decode cL_law 3245 = .ok (.invokestatic 407, 3) := by decide +kernel
theorem dL_law_3248 : decode cL_law 3248 = .ok (.istore 6, 2) := by decide +kernel
theorem dL_law_3250 : decode cL_law 3250 = .ok (.aload_n 2, 1) := by decide +kernel
theorem dL_law_3251 : decode cL_law 3251 = .ok (.aload_n 0, 1) := by decide +kernel
theorem dL_law_3252 : decode cL_law 3252 = .ok (.iload 5, 2) := by decide +kernel
theorem dL_law_3254 : decode cL_law 3254 = .ok (.iconst 1, 1) := by decide +kernel
theorem dL_law_3255 : decode cL_law 3255 = .ok (.iadd, 1) := by decide +kernel
theorem dL_law_3256 : decode cL_law 3256 = .ok (.iaload, 1) := by decide +kernel
theorem dL_law_3257 : decode cL_law 3257 = .ok (.i2c, 1) := by decide +kernel
theorem dL_law_3258 : decode cL_law 3258 = .ok (.aload_n 0, 1) := by decide +kernel
theorem dL_law_3259 : decode cL_law 3259 = .ok (.iload 5, 2) := by decide +kernel
theorem dL_law_3261 : decode cL_law 3261 = .ok (.iconst 2, 1) := by decide +kernel
theorem dL_law_3262 : decode cL_law 3262 = .ok (.iadd, 1) := by decide +kernel
theorem dL_law_3263 : decode cL_law 3263 = .ok (.iaload, 1) := by decide +kernel
theorem dL_law_3264 : decode cL_law 3264 = .ok (.aload_n 0, 1) := by decide +kernel
theorem dL_law_3265 : decode cL_law 3265 = .ok (.iload 5, 2) := by decide +kernel
theorem dL_law_3267 : decode cL_law 3267 = .ok (.iconst 3, 1) := by decide +kernel
theorem dL_law_3268 : decode cL_law 3268 = .ok (.iadd, 1) := by decide +kernel
theorem dL_law_3269 : decode cL_law 3269 = .ok (.iaload, 1) := by decide +kernel
theorem dL_law_3270 : decode cL_law 3270 = .ok (.aload_n 0, 1) := by decide +kernel
theorem dL_law_3271 : decode cL_law 3271 = .ok (.iload 5, 2) := by decide +kernel
theorem dL_law_3273 : decode cL_law 3273 = .ok (.iconst 4, 1) := by decide +kernel
theorem dL_law_3274 : decode cL_law 3274 = .ok (.iadd, 1) := by decide +kernel
theorem dL_law_3275 : decode cL_law 3275 = .ok (.iaload, 1) := by decide +kernel
theorem dL_law_3276 : decode cL_law 3276 = .ok (.aload_n 0, 1) := by decide +kernel
theorem dL_law_3277 : decode cL_law 3277 = .ok (.iload 5, 2) := by decide +kernel
theorem dL_law_3279 : decode cL_law 3279 = .ok (.iconst 5, 1) := by decide +kernel
theorem dL_law_3280 : decode cL_law 3280 = .ok (.iadd, 1) := by decide +kernel
theorem dL_law_3281 : decode cL_law 3281 = .ok (.iaload, 1) := by decide +kernel
theorem dL_law_3282 : decode cL_law 3282 = .ok (.invokevirtual 410, 3) := by decide +kernel
theorem dL_law_3285 : decode cL_law 3285 = .ok (.istore 7, 2) := by decide +kernel
theorem dL_law_3287 : decode cL_law 3287 = .ok (.aload_n 2, 1) := by decide +kernel
theorem dL_law_3288 : decode cL_law 3288 = .ok (.invokevirtual 221, 3) := by decide +kernel
theorem dL_law_3291 : decode cL_law 3291 = .ok (.iload 6, 2) := by decide +kernel
theorem dL_law_3293 : decode cL_law 3293 = .ok (.if_icmp .eq 5, 3) := by decide +kernel
theorem dL_law_3298 : decode cL_law 3298 = .ok (.iload 6, 2) := by decide +kernel
theorem dL_law_3300 : decode cL_law 3300 = .ok (.ifCond .ne 22, 3) := by decide +kernel
theorem dL_law_3322 : decode cL_law 3322 = .ok (.goto 942, 3) := by decide +kernel
set_option maxHeartbeats 4000000 in
set_option maxRecDepth 100000 in
theorem lw_case_55 {p : Program} {l : Launch} {e : Env} {s : State} {m : MethodId} {below : List Frame} {meth : Method} {c : Code} {H : Heap} {locs : List Loc} {ls : Array Slot} {Q : State → Prop} {D : va_G} {g : Nat → ClassId} {z0 b : Nat} {xs : Nat → Int32} {a : Nat → Nat} {o1 o2 : Nat} (hfl : l.stackTraces = false) (hx : p.tables.exec = Jvm.exec) (hb : c.code = cL_law) (hml : c.maxLocals = 9) (hown : s.vm.findClass RL = some m.cls) (ht : ∀ w ∈ TG, w.before #[Value.ref b] s = true) (hX : va_X b 6 xs s s.heap) (hbl : b < s.heap.size) (hbA : ¬ va_A [] s.heap.size b) (hK : KK D g s) (hZ : ZZ g z0 s) (hz : z0 ≤ s.heap.size) (hAz : ∀ q, va_A [] s.heap.size q → z0 ≤ q) (hP : va_P D vwCl (lwW a g o1 o2) H) (hD : va_D (va_A [] s.heap.size) (lwW a g o1 o2)) (hS : va_S (va_A [] s.heap.size) s.heap H locs) (hl : lv_has ls 9 [(0, .ref b), (1, .ref (a 0)), (2, .ref (a 200)), (3, .ref o1), (4, .ref o2), (5, .int 0)])
    (kk : ∀ (H : Heap) (locs : List Loc) (ls : Array Slot), va_S (va_A [] s.heap.size) s.heap H locs → lv_has ls 9 [(5, .int 0), (0, .ref b)] → W p l e room_1 s m #[Value.ref b] below meth c H locs (200 + 300) (8000 + 2000) Q (F0 m 4264 ls [])) :
    W p l e room_1 s m #[Value.ref b] below meth c H locs 200 8000 Q (F0 m 3212 ls []) := by
  have hA : ∀ q : Nat, s.heap.size ≤ q → va_A [] s.heap.size q := Anw
  have hP := hP.sub (ws' := [((a 0), f_x a), ((a 9), f_memory a), ((a 200), f_m a g), (o1, .inl (g 1, 1, .inr (.inl (fun _ => 0))))]) [0, 18, 26, 61] rfl
  have hD := hD.sub (ws' := [((a 0), f_x a), ((a 9), f_memory a), ((a 200), f_m a g), (o1, .inl (g 1, 1, .inr (.inl (fun _ => 0))))]) [0, 18, 26, 61] (by decide) rfl
  refine lv_aload_n hx hb dL_law_3212 rfl (lv_at hl 1 rfl) ?_
  refine lv_aload_n hx hb dL_law_3213 rfl (lv_at hl 0 rfl) ?_
  refine lv_iload hx hb dL_law_3214 (lv_at hl 5 rfl) ?_
  refine lv_iconst (v := 1) hx hb dL_law_3216 (by decide) ?_
  refine lv_iadd hx hb dL_law_3217 ?_
  refine r_topi (v := 1) (by decide) ?_
  refine va_sld hx hb hX hbl hbA hS (by unfold vp_in; decide) dL_law_3218 ?_
  refine r_topi (v := xs 1) (congrArg xs (by decide)) ?_
  refine lv_i2c (v := ((xs 1).toUInt32 % 65536).toInt32) hx hb dL_law_3219 rfl ?_
  refine lv_aload_n hx hb dL_law_3220 rfl (lv_at hl 0 rfl) ?_
  refine lv_iload hx hb dL_law_3221 (lv_at hl 5 rfl) ?_
  refine lv_iconst (v := 2) hx hb dL_law_3223 (by decide) ?_
  refine lv_iadd hx hb dL_law_3224 ?_
  refine r_topi (v := 2) (by decide) ?_
  refine va_sld hx hb hX hbl hbA hS (by unfold vp_in; decide) dL_law_3225 ?_
  refine r_topi (v := xs 2) (congrArg xs (by decide)) ?_
  refine lv_aload_n hx hb dL_law_3226 rfl (lv_at hl 0 rfl) ?_
  refine lv_iload hx hb dL_law_3227 (lv_at hl 5 rfl) ?_
  refine lv_iconst (v := 3) hx hb dL_law_3229 (by decide) ?_
  refine lv_iadd hx hb dL_law_3230 ?_
  refine r_topi (v := 3) (by decide) ?_
  refine va_sld hx hb hX hbl hbA hS (by unfold vp_in; decide) dL_law_3231 ?_
  refine r_topi (v := xs 3) (congrArg xs (by decide)) ?_
  refine lv_aload_n hx hb dL_law_3232 rfl (lv_at hl 0 rfl) ?_
  refine lv_iload hx hb dL_law_3233 (lv_at hl 5 rfl) ?_
  refine lv_iconst (v := 4) hx hb dL_law_3235 (by decide) ?_
  refine lv_iadd hx hb dL_law_3236 ?_
  refine r_topi (v := 4) (by decide) ?_
  refine va_sld hx hb hX hbl hbA hS (by unfold vp_in; decide) dL_law_3237 ?_
  refine r_topi (v := xs 4) (congrArg xs (by decide)) ?_
  refine lv_aload_n hx hb dL_law_3238 rfl (lv_at hl 0 rfl) ?_
  refine lv_iload hx hb dL_law_3239 (lv_at hl 5 rfl) ?_
  refine lv_iconst (v := 5) hx hb dL_law_3241 (by decide) ?_
  refine lv_iadd hx hb dL_law_3242 ?_
  refine r_topi (v := 5) (by decide) ?_
  refine va_sld hx hb hX hbl hbA hS (by unfold vp_in; decide) dL_law_3243 ?_
  refine r_topi (v := xs 5) (congrArg xs (by decide)) ?_
  refine lv_aload_n hx hb dL_law_3244 rfl (lv_at hl 3 rfl) ?_
  have hPc : va_P D vwCl [(o1, .inl (g 1, 1, .inr (.inl (fun _ => 0)))), ((a 0), f_x a), ((a 9), f_memory a)] _ := hP.sub (ws' := [(o1, .inl (g 1, 1, .inr (.inl (fun _ => 0)))), ((a 0), f_x a), ((a 9), f_memory a)]) [3, 0, 1] rfl
  have hDc : va_D (fun q => z0 ≤ q) [(o1, .inl (g 1, 1, .inr (.inl (fun _ => 0)))), ((a 0), f_x a), ((a 9), f_memory a)] := (hD.to hAz).pick (ws' := [(o1, .inl (g 1, 1, .inr (.inl (fun _ => 0)))), ((a 0), f_x a), ((a 9), f_memory a)]) [3, 0, 1] (by decide) rfl
  have hFc := va_free (wc := [(o1, .inl (g 1, 1, .inr (.inl (fun _ => 0)))), ((a 0), f_x a), ((a 9), f_memory a)]) hD hS hA [3, 0, 1] rfl
  refine va_calli (vx_runSW (As := [.ref (a 0), .int (((xs 1).toUInt32 % 65536).toInt32), .int (xs 2), .int (xs 3), .int (xs 4), .int (xs 5), .ref o1]) (rest := []) ⟨hx, hb, hml, hown, ht⟩ (k_L_marchFinds l hfl D g z0 _ a (((xs 1).toUInt32 % 65536).toInt32) (xs 2) (xs 3) (xs 4) (xs 5) o1 (isC_i2c _)) (vx_cwSW 7 ht (gS w_1228 w_1230 w_767 w_1229) rfl rfl rfl (by decide +kernel) (le2 rfl rfl)) ⟨PP.blind, PP.mk' hK hZ hz hAz hS hPc hDc⟩ rfl rfl hl.1 rfl (lv_room (Nat.le_of_ble_eq_true rfl)) dL_law_3245 (le2 rfl rfl)) hS (fun q _ h => hFc q h) hFc (fun r u t H locs ht1 hvm hw hB hz1 hk1 hS => ?_)
  rcases hw with hw | hw
  · obtain ⟨rfl, hw⟩ := hw
    rcases hw with hw | hw | hw | hw | hw | hw | hw | hw | hw | hw | hw | hw | hw | hw | hw | hw | hw | hw | hw | hw | hw | hw | hw | hw | hw | hw
    · obtain ⟨c_1, c_2⟩ := hw
      obtain ⟨hP1, hD1⟩ := hB
      rw [ht1] at hP1
      obtain ⟨hP, hD⟩ := va_join (wr := [((a 200), f_m a g)]) (w1 := [(o1, .inl (g 1, 1, .inr (.inl (fun _ => 0))))]) hP hD [3, 0, 1] [2] rfl rfl (by decide) (by decide) hk1 hFc hP1 hD1
      have hP : va_P D vwCl [((a 200), f_m a g), (o1, .inl (g 1, 1, .inr (.inl (fun _ => 0))))] H := hP
      have hD : va_D (va_A [] s.heap.size) [((a 200), f_m a g), (o1, .inl (g 1, 1, .inr (.inl (fun _ => 0))))] := hD
      refine lv_istore (lv' := [(6, .int 1), (0, .ref b), (1, .ref (a 0)), (2, .ref (a 200)), (3, .ref o1), (4, .ref o2), (5, .int 0)]) hx hb dL_law_3248 hl (by decide) rfl (fun ls hl => ?_)
      refine lv_aload_n hx hb dL_law_3250 rfl (lv_at hl 3 rfl) ?_
      refine lv_aload_n hx hb dL_law_3251 rfl (lv_at hl 1 rfl) ?_
      refine lv_iload hx hb dL_law_3252 (lv_at hl 6 rfl) ?_
      refine lv_iconst (v := 1) hx hb dL_law_3254 (by decide) ?_
      refine lv_iadd hx hb dL_law_3255 ?_
      refine r_topi (v := 1) (by decide) ?_
      refine va_sld hx hb hX hbl hbA hS (by unfold vp_in; decide) dL_law_3256 ?_
      refine r_topi (v := xs 1) (congrArg xs (by decide)) ?_
      refine lv_i2c (v := ((xs 1).toUInt32 % 65536).toInt32) hx hb dL_law_3257 rfl ?_
      refine lv_aload_n hx hb dL_law_3258 rfl (lv_at hl 1 rfl) ?_
      refine lv_iload hx hb dL_law_3259 (lv_at hl 6 rfl) ?_
      refine lv_iconst (v := 2) hx hb dL_law_3261 (by decide) ?_
      refine lv_iadd hx hb dL_law_3262 ?_
      refine r_topi (v := 2) (by decide) ?_
      refine va_sld hx hb hX hbl hbA hS (by unfold vp_in; decide) dL_law_3263 ?_
      refine r_topi (v := xs 2) (congrArg xs (by decide)) ?_
      refine lv_aload_n hx hb dL_law_3264 rfl (lv_at hl 1 rfl) ?_
      refine lv_iload hx hb dL_law_3265 (lv_at hl 6 rfl) ?_
      refine lv_iconst (v := 3) hx hb dL_law_3267 (by decide) ?_
      refine lv_iadd hx hb dL_law_3268 ?_
      refine r_topi (v := 3) (by decide) ?_
      refine va_sld hx hb hX hbl hbA hS (by unfold vp_in; decide) dL_law_3269 ?_
      refine r_topi (v := xs 3) (congrArg xs (by decide)) ?_
      refine lv_aload_n hx hb dL_law_3270 rfl (lv_at hl 1 rfl) ?_
      refine lv_iload hx hb dL_law_3271 (lv_at hl 6 rfl) ?_
      refine lv_iconst (v := 4) hx hb dL_law_3273 (by decide) ?_
      refine lv_iadd hx hb dL_law_3274 ?_
      refine r_topi (v := 4) (by decide) ?_
      refine va_sld hx hb hX hbl hbA hS (by unfold vp_in; decide) dL_law_3275 ?_
      refine r_topi (v := xs 4) (congrArg xs (by decide)) ?_
      refine lv_aload_n hx hb dL_law_3276 rfl (lv_at hl 1 rfl) ?_
      refine lv_iload hx hb dL_law_3277 (lv_at hl 6 rfl) ?_
      refine lv_iconst (v := 5) hx hb dL_law_3279 (by decide) ?_
      refine lv_iadd hx hb dL_law_3280 ?_
      refine r_topi (v := 5) (by decide) ?_
      refine va_sld hx hb hX hbl hbA hS (by unfold vp_in; decide) dL_law_3281 ?_
      refine r_topi (v := xs 5) (congrArg xs (by decide)) ?_
      have hPc : va_P D vwCl [((a 200), f_m a g)] _ := hP.sub (ws' := [((a 200), f_m a g)]) [0] rfl
      have hDc : va_D (fun q => z0 ≤ q) [((a 200), f_m a g)] := (hD.to hAz).pick (ws' := [((a 200), f_m a g)]) [0] (by decide) rfl
      have hFc := va_free (wc := [((a 200), f_m a g)]) hD hS hA [0] rfl
      refine va_calli (va_runV (As := [.int (((xs 1).toUInt32 % 65536).toInt32), .int (xs 2), .int (xs 3), .int (xs 4), .int (xs 5)]) (rest := []) ⟨hx, hb, hml, hown, ht⟩ (k_X15_marchFinds l D g z0 _ a (((xs 1).toUInt32 % 65536).toInt32) (xs 2) (xs 3) (xs 4) (xs 5) (isC_i2c _)) (cwV 5 ht (gV w_1231 w_1233 w_1234 w_334 w_1232) rfl rfl rfl (by decide +kernel) (le2 rfl rfl)) ⟨PP.blind, va_recv hK.1 hP (ci := 21) (q0 := 0) rfl rfl, PP.mk' hK hZ hz hAz hS hPc hDc⟩ rfl rfl hl.1 rfl (lv_room (Nat.le_of_ble_eq_true rfl)) dL_law_3282 (le2 rfl rfl)) hS (fun q _ h => hFc q h) hFc (fun r u t H locs ht1 hvm hw hB hz1 hk1 hS => ?_)
      rcases hw with hw | hw
      · obtain ⟨rfl, rfl, hw⟩ := hw
        rcases hw with hw | hw | hw | hw | hw | hw | hw | hw | hw | hw | hw | hw | hw | hw | hw | hw | hw | hw | hw | hw | hw | hw | hw | hw | hw | hw | hw | hw | hw | hw | hw | hw
        · obtain ⟨c_3, c_4, c_5, c_6, c_7⟩ := hw
          exact absurd c_1 c_3
        · obtain ⟨c_8, c_9, c_10, c_11, c_12⟩ := hw
          exact absurd c_1 c_8
        · obtain ⟨c_13, c_14, c_15, c_16, c_17⟩ := hw
          exact absurd c_1 c_13
        · obtain ⟨c_18, c_19, c_20, c_21⟩ := hw
          exact absurd (c_1.symm.trans c_18) (by decide)
        · obtain ⟨c_22, c_23, c_24, c_25, c_26⟩ := hw
          exact absurd (c_1.symm.trans c_22) (by decide)
        · obtain ⟨c_27, c_28, c_29, c_30, c_31, c_32⟩ := hw
          exact absurd (c_1.symm.trans c_27) (by decide)
        · obtain ⟨c_33, c_34, c_35, c_36, c_37, c_38, c_39⟩ := hw
          exact absurd (c_1.symm.trans c_33) (by decide)
        · obtain ⟨c_40, c_41, c_42, c_43, c_44, c_45, c_46, c_47⟩ := hw
          exact absurd (c_1.symm.trans c_40) (by decide)
        · obtain ⟨c_48, c_49, c_50⟩ := hw
          exact absurd (c_1.symm.trans c_48) (by decide)
        · obtain ⟨c_51, c_52, c_53, c_54⟩ := hw
          exact absurd (c_1.symm.trans c_51) (by decide)
        · obtain ⟨c_55, c_56, c_57, c_58, c_59⟩ := hw
          exact absurd (c_1.symm.trans c_55) (by decide)
        · obtain ⟨c_60, c_61, c_62, c_63, c_64, c_65⟩ := hw
          exact absurd (c_1.symm.trans c_60) (by decide)
        · obtain ⟨c_66, c_67, c_68, c_69, c_70, c_71, c_72⟩ := hw
          exact absurd (c_1.symm.trans c_66) (by decide)
        · obtain ⟨c_73, c_74, c_75, c_76, c_77, c_78, c_79, c_80, c_81⟩ := hw
          exact absurd (c_1.symm.trans c_73) (by decide)
        · obtain ⟨c_82, c_83, c_84, c_85, c_86, c_87, c_88, c_89, c_90, c_91⟩ := hw
          exact absurd (c_1.symm.trans c_82) (by decide)
        · obtain ⟨c_92, c_93⟩ := hw
          exact absurd (c_1.symm.trans c_92) (by decide)
        · obtain ⟨c_94, c_95, c_96⟩ := hw
          exact absurd (c_1.symm.trans c_94) (by decide)
        · obtain ⟨c_97, c_98, c_99, c_100⟩ := hw
          exact absurd (c_1.symm.trans c_97) (by decide)
        · obtain ⟨c_101, c_102, c_103, c_104, c_105⟩ := hw
          exact absurd (c_1.symm.trans c_101) (by decide)
        · obtain ⟨c_106, c_107, c_108, c_109, c_110, c_111⟩ := hw
          exact absurd (c_1.symm.trans c_106) (by decide)
        · obtain ⟨c_112, c_113, c_114, c_115, c_116, c_117, c_118, c_119⟩ := hw
          exact absurd (c_1.symm.trans c_112) (by decide)
        · obtain ⟨c_120, c_121, c_122, c_123, c_124, c_125, c_126, c_127, c_128⟩ := hw
          exact absurd (c_1.symm.trans c_120) (by decide)
        · obtain ⟨c_129, c_130, c_131, c_132, c_133, c_134, c_135, c_136, c_137, c_138⟩ := hw
          exact absurd (c_1.symm.trans c_129) (by decide)
        · obtain ⟨c_139, c_140, c_141, c_142, c_143, c_144, c_145, c_146, c_147, c_148, c_149⟩ := hw
          exact absurd (c_1.symm.trans c_139) (by decide)
        · obtain ⟨c_150, c_151, c_152, c_153, c_154⟩ := hw
          exact absurd (c_1.symm.trans c_150) (by decide)
        · obtain ⟨c_155, c_156, c_157, c_158, c_159, c_160⟩ := hw
          exact absurd (c_1.symm.trans c_155) (by decide)
        · obtain ⟨c_161, c_162, c_163, c_164, c_165, c_166, c_167⟩ := hw
          exact absurd (c_1.symm.trans c_161) (by decide)
        · obtain ⟨c_168, c_169, c_170, c_171, c_172, c_173, c_174, c_175⟩ := hw
          exact absurd (c_1.symm.trans c_168) (by decide)
        · obtain ⟨c_176, c_177, c_178, c_179, c_180⟩ := hw
          obtain ⟨hP1, hD1⟩ := hB
          rw [ht1] at hP1
          obtain ⟨hP, hD⟩ := va_join (wr := [(o1, .inl (g 1, 1, .inr (.inl (fun _ => 0))))]) (w1 := [((a 200), .inr (21, [.int 1, .ref (a 201), .ref (a 202), .ref (a 203), .ref (a 204), .ref (a 205), .ref (a 206), .int 0, .int 0, .int 0, .int 0, .ref (a 208), .ref (a 209), .ref (a 210), .ref (a 211), .ref (a 212), .int 4, .int 12, .int (-1), .int 0, .ref (g 200), .ref (a 213), .int 0, .int 97, .ref (a 214), .ref (a 215), .ref (a 207), .null, .int 0]))]) hP hD [0] [1] rfl rfl (by decide) (by decide) hk1 hFc hP1 hD1
          have hP : va_P D vwCl [(o1, .inl (g 1, 1, .inr (.inl (fun _ => 0)))), ((a 200), .inr (21, [.int 1, .ref (a 201), .ref (a 202), .ref (a 203), .ref (a 204), .ref (a 205), .ref (a 206), .int 0, .int 0, .int 0, .int 0, .ref (a 208), .ref (a 209), .ref (a 210), .ref (a 211), .ref (a 212), .int 4, .int 12, .int (-1), .int 0, .ref (g 200), .ref (a 213), .int 0, .int 97, .ref (a 214), .ref (a 215), .ref (a 207), .null, .int 0]))] H := hP
          have hD : va_D (va_A [] s.heap.size) [(o1, .inl (g 1, 1, .inr (.inl (fun _ => 0)))), ((a 200), .inr (21, [.int 1, .ref (a 201), .ref (a 202), .ref (a 203), .ref (a 204), .ref (a 205), .ref (a 206), .int 0, .int 0, .int 0, .int 0, .ref (a 208), .ref (a 209), .ref (a 210), .ref (a 211), .ref (a 212), .int 4, .int 12, .int (-1), .int 0, .ref (g 200), .ref (a 213), .int 0, .int 97, .ref (a 214), .ref (a 215), .ref (a 207), .null, .int 0]))] := hD
          refine lv_istore (lv' := [(7, .int 0), (6, .int 1), (0, .ref b), (1, .ref (a 0)), (2, .ref (a 200)), (3, .ref o1), (4, .ref o2), (5, .int 0)]) hx hb dL_law_3285 hl (by decide) rfl (fun ls hl => ?_)
          refine lv_aload_n hx hb dL_law_3287 rfl (lv_at hl 4 rfl) ?_
          have hPc : va_P D vwCl [((a 200), .inr (21, [.int 1, .ref (a 201), .ref (a 202), .ref (a 203), .ref (a 204), .ref (a 205), .ref (a 206), .int 0, .int 0, .int 0, .int 0, .ref (a 208), .ref (a 209), .ref (a 210), .ref (a 211), .ref (a 212), .int 4, .int 12, .int (-1), .int 0, .ref (g 200), .ref (a 213), .int 0, .int 97, .ref (a 214), .ref (a 215), .ref (a 207), .null, .int 0]))] _ := hP.sub (ws' := [((a 200), .inr (21, [.int 1, .ref (a 201), .ref (a 202), .ref (a 203), .ref (a 204), .ref (a 205), .ref (a 206), .int 0, .int 0, .int 0, .int 0, .ref (a 208), .ref (a 209), .ref (a 210), .ref (a 211), .ref (a 212), .int 4, .int 12, .int (-1), .int 0, .ref (g 200), .ref (a 213), .int 0, .int 97, .ref (a 214), .ref (a 215), .ref (a 207), .null, .int 0]))]) [1] rfl
          have hDc : va_D (fun q => z0 ≤ q) [((a 200), .inr (21, [.int 1, .ref (a 201), .ref (a 202), .ref (a 203), .ref (a 204), .ref (a 205), .ref (a 206), .int 0, .int 0, .int 0, .int 0, .ref (a 208), .ref (a 209), .ref (a 210), .ref (a 211), .ref (a 212), .int 4, .int 12, .int (-1), .int 0, .ref (g 200), .ref (a 213), .int 0, .int 97, .ref (a 214), .ref (a 215), .ref (a 207), .null, .int 0]))] := (hD.to hAz).pick (ws' := [((a 200), .inr (21, [.int 1, .ref (a 201), .ref (a 202), .ref (a 203), .ref (a 204), .ref (a 205), .ref (a 206), .int 0, .int 0, .int 0, .int 0, .ref (a 208), .ref (a 209), .ref (a 210), .ref (a 211), .ref (a 212), .int 4, .int 12, .int (-1), .int 0, .ref (g 200), .ref (a 213), .int 0, .int 97, .ref (a 214), .ref (a 215), .ref (a 207), .null, .int 0]))]) [1] (by decide) rfl
          have hFc := va_free (wc := [((a 200), .inr (21, [.int 1, .ref (a 201), .ref (a 202), .ref (a 203), .ref (a 204), .ref (a 205), .ref (a 206), .int 0, .int 0, .int 0, .int 0, .ref (a 208), .ref (a 209), .ref (a 210), .ref (a 211), .ref (a 212), .int 4, .int 12, .int (-1), .int 0, .ref (g 200), .ref (a 213), .int 0, .int 97, .ref (a 214), .ref (a 215), .ref (a 207), .null, .int 0]))]) hD hS hA [1] rfl
          refine va_calli (va_runV (As := []) (rest := []) ⟨hx, hb, hml, hown, ht⟩ (k_X15_thrown_v2 l D g z0 _ a) (cwV 0 ht (gV w_772 w_774 w_775 w_334 w_773) rfl rfl rfl (by decide +kernel) (le2 rfl rfl)) ⟨PP.blind, va_recv hK.1 hP (ci := 21) (q0 := 1) rfl rfl, PP.mk' hK hZ hz hAz hS hPc hDc⟩ rfl rfl hl.1 rfl (lv_room (Nat.le_of_ble_eq_true rfl)) dL_law_3288 (le2 rfl rfl)) hS (fun q _ h => hFc q h) hFc (fun r u t H locs ht1 hvm hw hB hz1 hk1 hS => ?_)
          obtain ⟨rfl, hw⟩ := hw
          obtain ⟨hP1, hD1⟩ := hB
          rw [ht1] at hP1
          obtain ⟨hP, hD⟩ := va_join (wr := [(o1, .inl (g 1, 1, .inr (.inl (fun _ => 0))))]) (w1 := [((a 200), .inr (21, [.int 1, .ref (a 201), .ref (a 202), .ref (a 203), .ref (a 204), .ref (a 205), .ref (a 206), .int 0, .int 0, .int 0, .int 0, .ref (a 208), .ref (a 209), .ref (a 210), .ref (a 211), .ref (a 212), .int 4, .int 12, .int (-1), .int 0, .ref (g 200), .ref (a 213), .int 0, .int 97, .ref (a 214), .ref (a 215), .ref (a 207), .null, .int 0]))]) hP hD [1] [0] rfl rfl (by decide) (by decide) hk1 hFc hP1 hD1
          have hP : va_P D vwCl [(o1, .inl (g 1, 1, .inr (.inl (fun _ => 0)))), ((a 200), .inr (21, [.int 1, .ref (a 201), .ref (a 202), .ref (a 203), .ref (a 204), .ref (a 205), .ref (a 206), .int 0, .int 0, .int 0, .int 0, .ref (a 208), .ref (a 209), .ref (a 210), .ref (a 211), .ref (a 212), .int 4, .int 12, .int (-1), .int 0, .ref (g 200), .ref (a 213), .int 0, .int 97, .ref (a 214), .ref (a 215), .ref (a 207), .null, .int 0]))] H := hP
          have hD : va_D (va_A [] s.heap.size) [(o1, .inl (g 1, 1, .inr (.inl (fun _ => 0)))), ((a 200), .inr (21, [.int 1, .ref (a 201), .ref (a 202), .ref (a 203), .ref (a 204), .ref (a 205), .ref (a 206), .int 0, .int 0, .int 0, .int 0, .ref (a 208), .ref (a 209), .ref (a 210), .ref (a 211), .ref (a 212), .int 4, .int 12, .int (-1), .int 0, .ref (g 200), .ref (a 213), .int 0, .int 97, .ref (a 214), .ref (a 215), .ref (a 207), .null, .int 0]))] := hD
          refine lv_iload hx hb dL_law_3291 (lv_at hl 1 rfl) ?_
          refine lv_icmp_eq (tgt := 3298) hx hb dL_law_3293 (by decide) (fun c_181 => ?_) (fun c_181 => ?_)
          · refine lv_iload hx hb dL_law_3298 (lv_at hl 1 rfl) ?_
            refine lv_if_ne (tgt := 3322) hx hb dL_law_3300 (by decide) (fun c_182 => ?_) (fun c_182 => ?_)
            · refine lv_goto (tgt := 4264) hx hb dL_law_3322 (by decide) ?_
              refine W.widen (k := 200 + 300) (n := 8000 + 2000) (Nat.le_of_ble_eq_true rfl) (Nat.le_of_ble_eq_true rfl) ?_
              exact kk _ _ _ hS (lv_sub hl [7, 2] rfl)
            · exact absurd c_182 (by decide)
          · exact absurd c_181 (by decide)
        · obtain ⟨c_183, c_184, c_185, c_186, c_187, c_188⟩ := hw
          exact absurd c_2 c_187
        · obtain ⟨c_189, c_190, c_191, c_192, c_193, c_194, c_195⟩ := hw
          exact absurd c_2 c_193
        · obtain ⟨c_196, c_197, c_198, c_199, c_200, c_201, c_202, c_203⟩ := hw
          exact absurd c_2 c_200
      · obtain ⟨rfl, rfl, hw⟩ := hw
        rcases hw with hw | hw | hw | hw | hw
        · obtain ⟨c_204, c_205, c_206, c_207, c_208, c_209, c_210, c_211⟩ := hw
          exact absurd (c_1.symm.trans c_204) (by decide)
        · obtain ⟨c_212, c_213, c_214, c_215, c_216, c_217, c_218, c_219, c_220, c_221⟩ := hw
          exact absurd (c_1.symm.trans c_212) (by decide)
        · obtain ⟨c_222, c_223, c_224, c_225, c_226, c_227, c_228, c_229, c_230, c_231, c_232⟩ := hw
          exact absurd (c_1.symm.trans c_222) (by decide)
        · obtain ⟨c_233, c_234, c_235, c_236, c_237, c_238, c_239, c_240⟩ := hw
          exact absurd (c_1.symm.trans c_233) (by decide)
        · obtain ⟨c_241, c_242, c_243, c_244, c_245, c_246, c_247, c_248⟩ := hw
          exact absurd c_2 c_245
    · obtain ⟨c_249, c_250, c_251, c_252, c_253, c_254, c_255, c_256⟩ := hw
      obtain ⟨hP1, hD1⟩ := hB
      rw [ht1] at hP1
      obtain ⟨hP, hD⟩ := va_join (wr := [((a 200), f_m a g)]) (w1 := [(o1, .inl (g 1, 1, .inr (.inl (fun _ => 0))))]) hP hD [3, 0, 1] [2] rfl rfl (by decide) (by decide) hk1 hFc hP1 hD1
      have hP : va_P D vwCl [((a 200), f_m a g), (o1, .inl (g 1, 1, .inr (.inl (fun _ => 0))))] H := hP
      have hD : va_D (va_A [] s.heap.size) [((a 200), f_m a g), (o1, .inl (g 1, 1, .inr (.inl (fun _ => 0))))] := hD
      refine lv_istore (lv' := [(6, .int 1), (0, .ref b), (1, .ref (a 0)), (2, .ref (a 200)), (3, .ref o1), (4, .ref o2), (5, .int 0)]) hx hb dL_law_3248 hl (by decide) rfl (fun ls hl => ?_)
      refine lv_aload_n hx hb dL_law_3250 rfl (lv_at hl 3 rfl) ?_
      refine lv_aload_n hx hb dL_law_3251 rfl (lv_at hl 1 rfl) ?_
      refine lv_iload hx hb dL_law_3252 (lv_at hl 6 rfl) ?_
      refine lv_iconst (v := 1) hx hb dL_law_3254 (by decide) ?_
      refine lv_iadd hx hb dL_law_3255 ?_
      refine r_topi (v := 1) (by decide) ?_
      refine va_sld hx hb hX hbl hbA hS (by unfold vp_in; decide) dL_law_3256 ?_
      refine r_topi (v := xs 1) (congrArg xs (by decide)) ?_
      refine lv_i2c (v := ((xs 1).toUInt32 % 65536).toInt32) hx hb dL_law_3257 rfl ?_
      refine lv_aload_n hx hb dL_law_3258 rfl (lv_at hl 1 rfl) ?_
      refine lv_iload hx hb dL_law_3259 (lv_at hl 6 rfl) ?_
      refine lv_iconst (v := 2) hx hb dL_law_3261 (by decide) ?_
      refine lv_iadd hx hb dL_law_3262 ?_
      refine r_topi (v := 2) (by decide) ?_
      refine va_sld hx hb hX hbl hbA hS (by unfold vp_in; decide) dL_law_3263 ?_
      refine r_topi (v := xs 2) (congrArg xs (by decide)) ?_
      refine lv_aload_n hx hb dL_law_3264 rfl (lv_at hl 1 rfl) ?_
      refine lv_iload hx hb dL_law_3265 (lv_at hl 6 rfl) ?_
      refine lv_iconst (v := 3) hx hb dL_law_3267 (by decide) ?_
      refine lv_iadd hx hb dL_law_3268 ?_
      refine r_topi (v := 3) (by decide) ?_
      refine va_sld hx hb hX hbl hbA hS (by unfold vp_in; decide) dL_law_3269 ?_
      refine r_topi (v := xs 3) (congrArg xs (by decide)) ?_
      refine lv_aload_n hx hb dL_law_3270 rfl (lv_at hl 1 rfl) ?_
      refine lv_iload hx hb dL_law_3271 (lv_at hl 6 rfl) ?_
      refine lv_iconst (v := 4) hx hb dL_law_3273 (by decide) ?_
      refine lv_iadd hx hb dL_law_3274 ?_
      refine r_topi (v := 4) (by decide) ?_
      refine va_sld hx hb hX hbl hbA hS (by unfold vp_in; decide) dL_law_3275 ?_
      refine r_topi (v := xs 4) (congrArg xs (by decide)) ?_
      refine lv_aload_n hx hb dL_law_3276 rfl (lv_at hl 1 rfl) ?_
      refine lv_iload hx hb dL_law_3277 (lv_at hl 6 rfl) ?_
      refine lv_iconst (v := 5) hx hb dL_law_3279 (by decide) ?_
      refine lv_iadd hx hb dL_law_3280 ?_
      refine r_topi (v := 5) (by decide) ?_
      refine va_sld hx hb hX hbl hbA hS (by unfold vp_in; decide) dL_law_3281 ?_
      refine r_topi (v := xs 5) (congrArg xs (by decide)) ?_
      have hPc : va_P D vwCl [((a 200), f_m a g)] _ := hP.sub (ws' := [((a 200), f_m a g)]) [0] rfl
      have hDc : va_D (fun q => z0 ≤ q) [((a 200), f_m a g)] := (hD.to hAz).pick (ws' := [((a 200), f_m a g)]) [0] (by decide) rfl
      have hFc := va_free (wc := [((a 200), f_m a g)]) hD hS hA [0] rfl
      refine va_calli (va_runV (As := [.int (((xs 1).toUInt32 % 65536).toInt32), .int (xs 2), .int (xs 3), .int (xs 4), .int (xs 5)]) (rest := []) ⟨hx, hb, hml, hown, ht⟩ (k_X15_marchFinds l D g z0 _ a (((xs 1).toUInt32 % 65536).toInt32) (xs 2) (xs 3) (xs 4) (xs 5) (isC_i2c _)) (cwV 5 ht (gV w_1231 w_1233 w_1234 w_334 w_1232) rfl rfl rfl (by decide +kernel) (le2 rfl rfl)) ⟨PP.blind, va_recv hK.1 hP (ci := 21) (q0 := 0) rfl rfl, PP.mk' hK hZ hz hAz hS hPc hDc⟩ rfl rfl hl.1 rfl (lv_room (Nat.le_of_ble_eq_true rfl)) dL_law_3282 (le2 rfl rfl)) hS (fun q _ h => hFc q h) hFc (fun r u t H locs ht1 hvm hw hB hz1 hk1 hS => ?_)
      rcases hw with hw | hw
      · obtain ⟨rfl, rfl, hw⟩ := hw
        rcases hw with hw | hw | hw | hw | hw | hw | hw | hw | hw | hw | hw | hw | hw | hw | hw | hw | hw | hw | hw | hw | hw | hw | hw | hw | hw | hw | hw | hw | hw | hw | hw | hw
        · obtain ⟨c_257, c_258, c_259, c_260, c_261⟩ := hw
          exact absurd c_249 c_257
        · obtain ⟨c_262, c_263, c_264, c_265, c_266⟩ := hw
          exact absurd c_249 c_262
        · obtain ⟨c_267, c_268, c_269, c_270, c_271⟩ := hw
          exact absurd c_249 c_267
        · obtain ⟨c_272, c_273, c_274, c_275⟩ := hw
          exact absurd (c_249.symm.trans c_272) (by decide)
        · obtain ⟨c_276, c_277, c_278, c_279, c_280⟩ := hw
          exact absurd (c_249.symm.trans c_276) (by decide)
        · obtain ⟨c_281, c_282, c_283, c_284, c_285, c_286⟩ := hw
          exact absurd (c_249.symm.trans c_281) (by decide)
        · obtain ⟨c_287, c_288, c_289, c_290, c_291, c_292, c_293⟩ := hw
          exact absurd (c_249.symm.trans c_287) (by decide)
        · obtain ⟨c_294, c_295, c_296, c_297, c_298, c_299, c_300, c_301⟩ := hw
          exact absurd (c_249.symm.trans c_294) (by decide)
        · obtain ⟨c_302, c_303, c_304⟩ := hw
          exact absurd (c_249.symm.trans c_302) (by decide)
        · obtain ⟨c_305, c_306, c_307, c_308⟩ := hw
          exact absurd (c_249.symm.trans c_305) (by decide)
        · obtain ⟨c_309, c_310, c_311, c_312, c_313⟩ := hw
          exact absurd (c_249.symm.trans c_309) (by decide)
        · obtain ⟨c_314, c_315, c_316, c_317, c_318, c_319⟩ := hw
          exact absurd (c_249.symm.trans c_314) (by decide)
        · obtain ⟨c_320, c_321, c_322, c_323, c_324, c_325, c_326⟩ := hw
          exact absurd (c_249.symm.trans c_320) (by decide)
        · obtain ⟨c_327, c_328, c_329, c_330, c_331, c_332, c_333, c_334, c_335⟩ := hw
          exact absurd (c_249.symm.trans c_327) (by decide)
        · obtain ⟨c_336, c_337, c_338, c_339, c_340, c_341, c_342, c_343, c_344, c_345⟩ := hw
          exact absurd (c_249.symm.trans c_336) (by decide)
        · obtain ⟨c_346, c_347⟩ := hw
          exact absurd (c_249.symm.trans c_346) (by decide)
        · obtain ⟨c_348, c_349, c_350⟩ := hw
          exact absurd (c_249.symm.trans c_348) (by decide)
        · obtain ⟨c_351, c_352, c_353, c_354⟩ := hw
          exact absurd (c_249.symm.trans c_351) (by decide)
        · obtain ⟨c_355, c_356, c_357, c_358, c_359⟩ := hw
          exact absurd (c_249.symm.trans c_355) (by decide)
        · obtain ⟨c_360, c_361, c_362, c_363, c_364, c_365⟩ := hw
          exact absurd (c_249.symm.trans c_360) (by decide)
        · obtain ⟨c_366, c_367, c_368, c_369, c_370, c_371, c_372, c_373⟩ := hw
          exact absurd (c_249.symm.trans c_366) (by decide)
        · obtain ⟨c_374, c_375, c_376, c_377, c_378, c_379, c_380, c_381, c_382⟩ := hw
          exact absurd (c_249.symm.trans c_374) (by decide)
        · obtain ⟨c_383, c_384, c_385, c_386, c_387, c_388, c_389, c_390, c_391, c_392⟩ := hw
          exact absurd (c_249.symm.trans c_383) (by decide)
        · obtain ⟨c_393, c_394, c_395, c_396, c_397, c_398, c_399, c_400, c_401, c_402, c_403⟩ := hw
          exact absurd (c_249.symm.trans c_393) (by decide)
        · obtain ⟨c_404, c_405, c_406, c_407, c_408⟩ := hw
          exact absurd (c_249.symm.trans c_404) (by decide)
        · obtain ⟨c_409, c_410, c_411, c_412, c_413, c_414⟩ := hw
          exact absurd (c_249.symm.trans c_409) (by decide)
        · obtain ⟨c_415, c_416, c_417, c_418, c_419, c_420, c_421⟩ := hw
          exact absurd (c_249.symm.trans c_415) (by decide)
        · obtain ⟨c_422, c_423, c_424, c_425, c_426, c_427, c_428, c_429⟩ := hw
          exact absurd (c_249.symm.trans c_422) (by decide)
        · obtain ⟨c_430, c_431, c_432, c_433, c_434⟩ := hw
          exact absurd c_434 c_250
        · obtain ⟨c_435, c_436, c_437, c_438, c_439, c_440⟩ := hw
          exact absurd (Int.le_trans (lo_lt c_440) (up_lt c_251)) (by decide)
        · obtain ⟨c_441, c_442, c_443, c_444, c_445, c_446, c_447⟩ := hw
          obtain ⟨hP1, hD1⟩ := hB
          rw [ht1] at hP1
          obtain ⟨hP, hD⟩ := va_join (wr := [(o1, .inl (g 1, 1, .inr (.inl (fun _ => 0))))]) (w1 := [((a 200), .inr (21, [.int 1, .ref (a 201), .ref (a 202), .ref (a 203), .ref (a 204), .ref (a 205), .ref (a 206), .int 0, .int 0, .int 0, .int 0, .ref (a 208), .ref (a 209), .ref (a 210), .ref (a 211), .ref (a 212), .int 4, .int 12, .int (-1), .int 0, .ref (g 200), .ref (a 213), .int 0, .int 97, .ref (a 214), .ref (a 215), .ref (a 207), .null, .int 0]))]) hP hD [0] [1] rfl rfl (by decide) (by decide) hk1 hFc hP1 hD1
          have hP : va_P D vwCl [(o1, .inl (g 1, 1, .inr (.inl (fun _ => 0)))), ((a 200), .inr (21, [.int 1, .ref (a 201), .ref (a 202), .ref (a 203), .ref (a 204), .ref (a 205), .ref (a 206), .int 0, .int 0, .int 0, .int 0, .ref (a 208), .ref (a 209), .ref (a 210), .ref (a 211), .ref (a 212), .int 4, .int 12, .int (-1), .int 0, .ref (g 200), .ref (a 213), .int 0, .int 97, .ref (a 214), .ref (a 215), .ref (a 207), .null, .int 0]))] H := hP
          have hD : va_D (va_A [] s.heap.size) [(o1, .inl (g 1, 1, .inr (.inl (fun _ => 0)))), ((a 200), .inr (21, [.int 1, .ref (a 201), .ref (a 202), .ref (a 203), .ref (a 204), .ref (a 205), .ref (a 206), .int 0, .int 0, .int 0, .int 0, .ref (a 208), .ref (a 209), .ref (a 210), .ref (a 211), .ref (a 212), .int 4, .int 12, .int (-1), .int 0, .ref (g 200), .ref (a 213), .int 0, .int 97, .ref (a 214), .ref (a 215), .ref (a 207), .null, .int 0]))] := hD
          refine lv_istore (lv' := [(7, .int 0), (6, .int 1), (0, .ref b), (1, .ref (a 0)), (2, .ref (a 200)), (3, .ref o1), (4, .ref o2), (5, .int 0)]) hx hb dL_law_3285 hl (by decide) rfl (fun ls hl => ?_)
          refine lv_aload_n hx hb dL_law_3287 rfl (lv_at hl 4 rfl) ?_
          have hPc : va_P D vwCl [((a 200), .inr (21, [.int 1, .ref (a 201), .ref (a 202), .ref (a 203), .ref (a 204), .ref (a 205), .ref (a 206), .int 0, .int 0, .int 0, .int 0, .ref (a 208), .ref (a 209), .ref (a 210), .ref (a 211), .ref (a 212), .int 4, .int 12, .int (-1), .int 0, .ref (g 200), .ref (a 213), .int 0, .int 97, .ref (a 214), .ref (a 215), .ref (a 207), .null, .int 0]))] _ := hP.sub (ws' := [((a 200), .inr (21, [.int 1, .ref (a 201), .ref (a 202), .ref (a 203), .ref (a 204), .ref (a 205), .ref (a 206), .int 0, .int 0, .int 0, .int 0, .ref (a 208), .ref (a 209), .ref (a 210), .ref (a 211), .ref (a 212), .int 4, .int 12, .int (-1), .int 0, .ref (g 200), .ref (a 213), .int 0, .int 97, .ref (a 214), .ref (a 215), .ref (a 207), .null, .int 0]))]) [1] rfl
          have hDc : va_D (fun q => z0 ≤ q) [((a 200), .inr (21, [.int 1, .ref (a 201), .ref (a 202), .ref (a 203), .ref (a 204), .ref (a 205), .ref (a 206), .int 0, .int 0, .int 0, .int 0, .ref (a 208), .ref (a 209), .ref (a 210), .ref (a 211), .ref (a 212), .int 4, .int 12, .int (-1), .int 0, .ref (g 200), .ref (a 213), .int 0, .int 97, .ref (a 214), .ref (a 215), .ref (a 207), .null, .int 0]))] := (hD.to hAz).pick (ws' := [((a 200), .inr (21, [.int 1, .ref (a 201), .ref (a 202), .ref (a 203), .ref (a 204), .ref (a 205), .ref (a 206), .int 0, .int 0, .int 0, .int 0, .ref (a 208), .ref (a 209), .ref (a 210), .ref (a 211), .ref (a 212), .int 4, .int 12, .int (-1), .int 0, .ref (g 200), .ref (a 213), .int 0, .int 97, .ref (a 214), .ref (a 215), .ref (a 207), .null, .int 0]))]) [1] (by decide) rfl
          have hFc := va_free (wc := [((a 200), .inr (21, [.int 1, .ref (a 201), .ref (a 202), .ref (a 203), .ref (a 204), .ref (a 205), .ref (a 206), .int 0, .int 0, .int 0, .int 0, .ref (a 208), .ref (a 209), .ref (a 210), .ref (a 211), .ref (a 212), .int 4, .int 12, .int (-1), .int 0, .ref (g 200), .ref (a 213), .int 0, .int 97, .ref (a 214), .ref (a 215), .ref (a 207), .null, .int 0]))]) hD hS hA [1] rfl
          refine va_calli (va_runV (As := []) (rest := []) ⟨hx, hb, hml, hown, ht⟩ (k_X15_thrown_v2 l D g z0 _ a) (cwV 0 ht (gV w_772 w_774 w_775 w_334 w_773) rfl rfl rfl (by decide +kernel) (le2 rfl rfl)) ⟨PP.blind, va_recv hK.1 hP (ci := 21) (q0 := 1) rfl rfl, PP.mk' hK hZ hz hAz hS hPc hDc⟩ rfl rfl hl.1 rfl (lv_room (Nat.le_of_ble_eq_true rfl)) dL_law_3288 (le2 rfl rfl)) hS (fun q _ h => hFc q h) hFc (fun r u t H locs ht1 hvm hw hB hz1 hk1 hS => ?_)
          obtain ⟨rfl, hw⟩ := hw
          obtain ⟨hP1, hD1⟩ := hB
          rw [ht1] at hP1
          obtain ⟨hP, hD⟩ := va_join (wr := [(o1, .inl (g 1, 1, .inr (.inl (fun _ => 0))))]) (w1 := [((a 200), .inr (21, [.int 1, .ref (a 201), .ref (a 202), .ref (a 203), .ref (a 204), .ref (a 205), .ref (a 206), .int 0, .int 0, .int 0, .int 0, .ref (a 208), .ref (a 209), .ref (a 210), .ref (a 211), .ref (a 212), .int 4, .int 12, .int (-1), .int 0, .ref (g 200), .ref (a 213), .int 0, .int 97, .ref (a 214), .ref (a 215), .ref (a 207), .null, .int 0]))]) hP hD [1] [0] rfl rfl (by decide) (by decide) hk1 hFc hP1 hD1
          have hP : va_P D vwCl [(o1, .inl (g 1, 1, .inr (.inl (fun _ => 0)))), ((a 200), .inr (21, [.int 1, .ref (a 201), .ref (a 202), .ref (a 203), .ref (a 204), .ref (a 205), .ref (a 206), .int 0, .int 0, .int 0, .int 0, .ref (a 208), .ref (a 209), .ref (a 210), .ref (a 211), .ref (a 212), .int 4, .int 12, .int (-1), .int 0, .ref (g 200), .ref (a 213), .int 0, .int 97, .ref (a 214), .ref (a 215), .ref (a 207), .null, .int 0]))] H := hP
          have hD : va_D (va_A [] s.heap.size) [(o1, .inl (g 1, 1, .inr (.inl (fun _ => 0)))), ((a 200), .inr (21, [.int 1, .ref (a 201), .ref (a 202), .ref (a 203), .ref (a 204), .ref (a 205), .ref (a 206), .int 0, .int 0, .int 0, .int 0, .ref (a 208), .ref (a 209), .ref (a 210), .ref (a 211), .ref (a 212), .int 4, .int 12, .int (-1), .int 0, .ref (g 200), .ref (a 213), .int 0, .int 97, .ref (a 214), .ref (a 215), .ref (a 207), .null, .int 0]))] := hD
          refine lv_iload hx hb dL_law_3291 (lv_at hl 1 rfl) ?_
          refine lv_icmp_eq (tgt := 3298) hx hb dL_law_3293 (by decide) (fun c_448 => ?_) (fun c_448 => ?_)
          · refine lv_iload hx hb dL_law_3298 (lv_at hl 1 rfl) ?_
            refine lv_if_ne (tgt := 3322) hx hb dL_law_3300 (by decide) (fun c_449 => ?_) (fun c_449 => ?_)
            · refine lv_goto (tgt := 4264) hx hb dL_law_3322 (by decide) ?_
              refine W.widen (k := 200 + 300) (n := 8000 + 2000) (Nat.le_of_ble_eq_true rfl) (Nat.le_of_ble_eq_true rfl) ?_
              exact kk _ _ _ hS (lv_sub hl [7, 2] rfl)
            · exact absurd c_449 (by decide)
          · exact absurd c_448 (by decide)
        · obtain ⟨c_450, c_451, c_452, c_453, c_454, c_455, c_456, c_457⟩ := hw
          obtain ⟨hP1, hD1⟩ := hB
          rw [ht1] at hP1
          obtain ⟨hP, hD⟩ := va_join (wr := [(o1, .inl (g 1, 1, .inr (.inl (fun _ => 0))))]) (w1 := [((a 200), .inr (21, [.int 1, .ref (a 201), .ref (a 202), .ref (a 203), .ref (a 204), .ref (a 205), .ref (a 206), .int 0, .int 0, .int 0, .int 0, .ref (a 208), .ref (a 209), .ref (a 210), .ref (a 211), .ref (a 212), .int 4, .int 12, .int (-1), .int 0, .ref (g 200), .ref (a 213), .int 0, .int 97, .ref (a 214), .ref (a 215), .ref (a 207), .null, .int 0]))]) hP hD [0] [1] rfl rfl (by decide) (by decide) hk1 hFc hP1 hD1
          have hP : va_P D vwCl [(o1, .inl (g 1, 1, .inr (.inl (fun _ => 0)))), ((a 200), .inr (21, [.int 1, .ref (a 201), .ref (a 202), .ref (a 203), .ref (a 204), .ref (a 205), .ref (a 206), .int 0, .int 0, .int 0, .int 0, .ref (a 208), .ref (a 209), .ref (a 210), .ref (a 211), .ref (a 212), .int 4, .int 12, .int (-1), .int 0, .ref (g 200), .ref (a 213), .int 0, .int 97, .ref (a 214), .ref (a 215), .ref (a 207), .null, .int 0]))] H := hP
          have hD : va_D (va_A [] s.heap.size) [(o1, .inl (g 1, 1, .inr (.inl (fun _ => 0)))), ((a 200), .inr (21, [.int 1, .ref (a 201), .ref (a 202), .ref (a 203), .ref (a 204), .ref (a 205), .ref (a 206), .int 0, .int 0, .int 0, .int 0, .ref (a 208), .ref (a 209), .ref (a 210), .ref (a 211), .ref (a 212), .int 4, .int 12, .int (-1), .int 0, .ref (g 200), .ref (a 213), .int 0, .int 97, .ref (a 214), .ref (a 215), .ref (a 207), .null, .int 0]))] := hD
          refine lv_istore (lv' := [(7, .int 0), (6, .int 1), (0, .ref b), (1, .ref (a 0)), (2, .ref (a 200)), (3, .ref o1), (4, .ref o2), (5, .int 0)]) hx hb dL_law_3285 hl (by decide) rfl (fun ls hl => ?_)
          refine lv_aload_n hx hb dL_law_3287 rfl (lv_at hl 4 rfl) ?_
          have hPc : va_P D vwCl [((a 200), .inr (21, [.int 1, .ref (a 201), .ref (a 202), .ref (a 203), .ref (a 204), .ref (a 205), .ref (a 206), .int 0, .int 0, .int 0, .int 0, .ref (a 208), .ref (a 209), .ref (a 210), .ref (a 211), .ref (a 212), .int 4, .int 12, .int (-1), .int 0, .ref (g 200), .ref (a 213), .int 0, .int 97, .ref (a 214), .ref (a 215), .ref (a 207), .null, .int 0]))] _ := hP.sub (ws' := [((a 200), .inr (21, [.int 1, .ref (a 201), .ref (a 202), .ref (a 203), .ref (a 204), .ref (a 205), .ref (a 206), .int 0, .int 0, .int 0, .int 0, .ref (a 208), .ref (a 209), .ref (a 210), .ref (a 211), .ref (a 212), .int 4, .int 12, .int (-1), .int 0, .ref (g 200), .ref (a 213), .int 0, .int 97, .ref (a 214), .ref (a 215), .ref (a 207), .null, .int 0]))]) [1] rfl
          have hDc : va_D (fun q => z0 ≤ q) [((a 200), .inr (21, [.int 1, .ref (a 201), .ref (a 202), .ref (a 203), .ref (a 204), .ref (a 205), .ref (a 206), .int 0, .int 0, .int 0, .int 0, .ref (a 208), .ref (a 209), .ref (a 210), .ref (a 211), .ref (a 212), .int 4, .int 12, .int (-1), .int 0, .ref (g 200), .ref (a 213), .int 0, .int 97, .ref (a 214), .ref (a 215), .ref (a 207), .null, .int 0]))] := (hD.to hAz).pick (ws' := [((a 200), .inr (21, [.int 1, .ref (a 201), .ref (a 202), .ref (a 203), .ref (a 204), .ref (a 205), .ref (a 206), .int 0, .int 0, .int 0, .int 0, .ref (a 208), .ref (a 209), .ref (a 210), .ref (a 211), .ref (a 212), .int 4, .int 12, .int (-1), .int 0, .ref (g 200), .ref (a 213), .int 0, .int 97, .ref (a 214), .ref (a 215), .ref (a 207), .null, .int 0]))]) [1] (by decide) rfl
          have hFc := va_free (wc := [((a 200), .inr (21, [.int 1, .ref (a 201), .ref (a 202), .ref (a 203), .ref (a 204), .ref (a 205), .ref (a 206), .int 0, .int 0, .int 0, .int 0, .ref (a 208), .ref (a 209), .ref (a 210), .ref (a 211), .ref (a 212), .int 4, .int 12, .int (-1), .int 0, .ref (g 200), .ref (a 213), .int 0, .int 97, .ref (a 214), .ref (a 215), .ref (a 207), .null, .int 0]))]) hD hS hA [1] rfl
          refine va_calli (va_runV (As := []) (rest := []) ⟨hx, hb, hml, hown, ht⟩ (k_X15_thrown_v2 l D g z0 _ a) (cwV 0 ht (gV w_772 w_774 w_775 w_334 w_773) rfl rfl rfl (by decide +kernel) (le2 rfl rfl)) ⟨PP.blind, va_recv hK.1 hP (ci := 21) (q0 := 1) rfl rfl, PP.mk' hK hZ hz hAz hS hPc hDc⟩ rfl rfl hl.1 rfl (lv_room (Nat.le_of_ble_eq_true rfl)) dL_law_3288 (le2 rfl rfl)) hS (fun q _ h => hFc q h) hFc (fun r u t H locs ht1 hvm hw hB hz1 hk1 hS => ?_)
          obtain ⟨rfl, hw⟩ := hw
          obtain ⟨hP1, hD1⟩ := hB
          rw [ht1] at hP1
          obtain ⟨hP, hD⟩ := va_join (wr := [(o1, .inl (g 1, 1, .inr (.inl (fun _ => 0))))]) (w1 := [((a 200), .inr (21, [.int 1, .ref (a 201), .ref (a 202), .ref (a 203), .ref (a 204), .ref (a 205), .ref (a 206), .int 0, .int 0, .int 0, .int 0, .ref (a 208), .ref (a 209), .ref (a 210), .ref (a 211), .ref (a 212), .int 4, .int 12, .int (-1), .int 0, .ref (g 200), .ref (a 213), .int 0, .int 97, .ref (a 214), .ref (a 215), .ref (a 207), .null, .int 0]))]) hP hD [1] [0] rfl rfl (by decide) (by decide) hk1 hFc hP1 hD1
          have hP : va_P D vwCl [(o1, .inl (g 1, 1, .inr (.inl (fun _ => 0)))), ((a 200), .inr (21, [.int 1, .ref (a 201), .ref (a 202), .ref (a 203), .ref (a 204), .ref (a 205), .ref (a 206), .int 0, .int 0, .int 0, .int 0, .ref (a 208), .ref (a 209), .ref (a 210), .ref (a 211), .ref (a 212), .int 4, .int 12, .int (-1), .int 0, .ref (g 200), .ref (a 213), .int 0, .int 97, .ref (a 214), .ref (a 215), .ref (a 207), .null, .int 0]))] H := hP
          have hD : va_D (va_A [] s.heap.size) [(o1, .inl (g 1, 1, .inr (.inl (fun _ => 0)))), ((a 200), .inr (21, [.int 1, .ref (a 201), .ref (a 202), .ref (a 203), .ref (a 204), .ref (a 205), .ref (a 206), .int 0, .int 0, .int 0, .int 0, .ref (a 208), .ref (a 209), .ref (a 210), .ref (a 211), .ref (a 212), .int 4, .int 12, .int (-1), .int 0, .ref (g 200), .ref (a 213), .int 0, .int 97, .ref (a 214), .ref (a 215), .ref (a 207), .null, .int 0]))] := hD
          refine lv_iload hx hb dL_law_3291 (lv_at hl 1 rfl) ?_
          refine lv_icmp_eq (tgt := 3298) hx hb dL_law_3293 (by decide) (fun c_458 => ?_) (fun c_458 => ?_)
          · refine lv_iload hx hb dL_law_3298 (lv_at hl 1 rfl) ?_
            refine lv_if_ne (tgt := 3322) hx hb dL_law_3300 (by decide) (fun c_459 => ?_) (fun c_459 => ?_)
            · refine lv_goto (tgt := 4264) hx hb dL_law_3322 (by decide) ?_
              refine W.widen (k := 200 + 300) (n := 8000 + 2000) (Nat.le_of_ble_eq_true rfl) (Nat.le_of_ble_eq_true rfl) ?_
              exact kk _ _ _ hS (lv_sub hl [7, 2] rfl)
            · exact absurd c_459 (by decide)
          · exact absurd c_458 (by decide)
      · obtain ⟨rfl, rfl, hw⟩ := hw
        rcases hw with hw | hw | hw | hw | hw
        · obtain ⟨c_460, c_461, c_462, c_463, c_464, c_465, c_466, c_467⟩ := hw
          exact absurd (c_249.symm.trans c_460) (by decide)
        · obtain ⟨c_468, c_469, c_470, c_471, c_472, c_473, c_474, c_475, c_476, c_477⟩ := hw
          exact absurd (c_249.symm.trans c_468) (by decide)
        · obtain ⟨c_478, c_479, c_480, c_481, c_482, c_483, c_484, c_485, c_486, c_487, c_488⟩ := hw
          exact absurd (c_249.symm.trans c_478) (by decide)
        · obtain ⟨c_489, c_490, c_491, c_492, c_493, c_494, c_495, c_496⟩ := hw
          exact absurd (c_249.symm.trans c_489) (by decide)
        · obtain ⟨c_497, c_498, c_499, c_500, c_501, c_502, c_503, c_504⟩ := hw
          exact (two_out (lo_nlt c_503) (up_nlt c_504) c_255 c_256).elim
    · obtain ⟨c_505, c_506, c_507⟩ := hw
      obtain ⟨hP1, hD1⟩ := hB
      rw [ht1] at hP1
      obtain ⟨hP, hD⟩ := va_join (wr := [((a 200), f_m a g)]) (w1 := [(o1, .inl (g 1, 1, .inr (.inl (fun _ => 0))))]) hP hD [3, 0, 1] [2] rfl rfl (by decide) (by decide) hk1 hFc hP1 hD1
      have hP : va_P D vwCl [((a 200), f_m a g), (o1, .inl (g 1, 1, .inr (.inl (fun _ => 0))))] H := hP
      have hD : va_D (va_A [] s.heap.size) [((a 200), f_m a g), (o1, .inl (g 1, 1, .inr (.inl (fun _ => 0))))] := hD
      refine lv_istore (lv' := [(6, .int 1), (0, .ref b), (1, .ref (a 0)), (2, .ref (a 200)), (3, .ref o1), (4, .ref o2), (5, .int 0)]) hx hb dL_law_3248 hl (by decide) rfl (fun ls hl => ?_)
      refine lv_aload_n hx hb dL_law_3250 rfl (lv_at hl 3 rfl) ?_
      refine lv_aload_n hx hb dL_law_3251 rfl (lv_at hl 1 rfl) ?_
      refine lv_iload hx hb dL_law_3252 (lv_at hl 6 rfl) ?_
      refine lv_iconst (v := 1) hx hb dL_law_3254 (by decide) ?_
      refine lv_iadd hx hb dL_law_3255 ?_
      refine r_topi (v := 1) (by decide) ?_
      refine va_sld hx hb hX hbl hbA hS (by unfold vp_in; decide) dL_law_3256 ?_
      refine r_topi (v := xs 1) (congrArg xs (by decide)) ?_
      refine lv_i2c (v := ((xs 1).toUInt32 % 65536).toInt32) hx hb dL_law_3257 rfl ?_
      refine lv_aload_n hx hb dL_law_3258 rfl (lv_at hl 1 rfl) ?_
      refine lv_iload hx hb dL_law_3259 (lv_at hl 6 rfl) ?_
      refine lv_iconst (v := 2) hx hb dL_law_3261 (by decide) ?_
      refine lv_iadd hx hb dL_law_3262 ?_
      refine r_topi (v := 2) (by decide) ?_
      refine va_sld hx hb hX hbl hbA hS (by unfold vp_in; decide) dL_law_3263 ?_
      refine r_topi (v := xs 2) (congrArg xs (by decide)) ?_
      refine lv_aload_n hx hb dL_law_3264 rfl (lv_at hl 1 rfl) ?_
      refine lv_iload hx hb dL_law_3265 (lv_at hl 6 rfl) ?_
      refine lv_iconst (v := 3) hx hb dL_law_3267 (by decide) ?_
      refine lv_iadd hx hb dL_law_3268 ?_
      refine r_topi (v := 3) (by decide) ?_
      refine va_sld hx hb hX hbl hbA hS (by unfold vp_in; decide) dL_law_3269 ?_
      refine r_topi (v := xs 3) (congrArg xs (by decide)) ?_
      refine lv_aload_n hx hb dL_law_3270 rfl (lv_at hl 1 rfl) ?_
      refine lv_iload hx hb dL_law_3271 (lv_at hl 6 rfl) ?_
      refine lv_iconst (v := 4) hx hb dL_law_3273 (by decide) ?_
      refine lv_iadd hx hb dL_law_3274 ?_
      refine r_topi (v := 4) (by decide) ?_
      refine va_sld hx hb hX hbl hbA hS (by unfold vp_in; decide) dL_law_3275 ?_
      refine r_topi (v := xs 4) (congrArg xs (by decide)) ?_
      refine lv_aload_n hx hb dL_law_3276 rfl (lv_at hl 1 rfl) ?_
      refine lv_iload hx hb dL_law_3277 (lv_at hl 6 rfl) ?_
      refine lv_iconst (v := 5) hx hb dL_law_3279 (by decide) ?_
      refine lv_iadd hx hb dL_law_3280 ?_
      refine r_topi (v := 5) (by decide) ?_
      refine va_sld hx hb hX hbl hbA hS (by unfold vp_in; decide) dL_law_3281 ?_
      refine r_topi (v := xs 5) (congrArg xs (by decide)) ?_
      have hPc : va_P D vwCl [((a 200), f_m a g)] _ := hP.sub (ws' := [((a 200), f_m a g)]) [0] rfl
      have hDc : va_D (fun q => z0 ≤ q) [((a 200), f_m a g)] := (hD.to hAz).pick (ws' := [((a 200), f_m a g)]) [0] (by decide) rfl
      have hFc := va_free (wc := [((a 200), f_m a g)]) hD hS hA [0] rfl
      refine va_calli (va_runV (As := [.int (((xs 1).toUInt32 % 65536).toInt32), .int (xs 2), .int (xs 3), .int (xs 4), .int (xs 5)]) (rest := []) ⟨hx, hb, hml, hown, ht⟩ (k_X15_marchFinds l D g z0 _ a (((xs 1).toUInt32 % 65536).toInt32) (xs 2) (xs 3) (xs 4) (xs 5) (isC_i2c _)) (cwV 5 ht (gV w_1231 w_1233 w_1234 w_334 w_1232) rfl rfl rfl (by decide +kernel) (le2 rfl rfl)) ⟨PP.blind, va_recv hK.1 hP (ci := 21) (q0 := 0) rfl rfl, PP.mk' hK hZ hz hAz hS hPc hDc⟩ rfl rfl hl.1 rfl (lv_room (Nat.le_of_ble_eq_true rfl)) dL_law_3282 (le2 rfl rfl)) hS (fun q _ h => hFc q h) hFc (fun r u t H locs ht1 hvm hw hB hz1 hk1 hS => ?_)
      rcases hw with hw | hw
      · obtain ⟨rfl, rfl, hw⟩ := hw
        rcases hw with hw | hw | hw | hw | hw | hw | hw | hw | hw | hw | hw | hw | hw | hw | hw | hw | hw | hw | hw | hw | hw | hw | hw | hw | hw | hw | hw | hw | hw | hw | hw | hw
        · obtain ⟨c_508, c_509, c_510, c_511, c_512⟩ := hw
          exact absurd c_505 c_508
        · obtain ⟨c_513, c_514, c_515, c_516, c_517⟩ := hw
          exact absurd c_505 c_513
        · obtain ⟨c_518, c_519, c_520, c_521, c_522⟩ := hw
          exact absurd c_505 c_518
        · obtain ⟨c_523, c_524, c_525, c_526⟩ := hw
          exact absurd (c_505.symm.trans c_523) (by decide)
        · obtain ⟨c_527, c_528, c_529, c_530, c_531⟩ := hw
          exact absurd (c_505.symm.trans c_527) (by decide)
        · obtain ⟨c_532, c_533, c_534, c_535, c_536, c_537⟩ := hw
          exact absurd (c_505.symm.trans c_532) (by decide)
        · obtain ⟨c_538, c_539, c_540, c_541, c_542, c_543, c_544⟩ := hw
          exact absurd (c_505.symm.trans c_538) (by decide)
        · obtain ⟨c_545, c_546, c_547, c_548, c_549, c_550, c_551, c_552⟩ := hw
          exact absurd (c_505.symm.trans c_545) (by decide)
        · obtain ⟨c_553, c_554, c_555⟩ := hw
          exact absurd (c_505.symm.trans c_553) (by decide)
        · obtain ⟨c_556, c_557, c_558, c_559⟩ := hw
          exact absurd (c_505.symm.trans c_556) (by decide)
        · obtain ⟨c_560, c_561, c_562, c_563, c_564⟩ := hw
          exact absurd (c_505.symm.trans c_560) (by decide)
        · obtain ⟨c_565, c_566, c_567, c_568, c_569, c_570⟩ := hw
          exact absurd (c_505.symm.trans c_565) (by decide)
        · obtain ⟨c_571, c_572, c_573, c_574, c_575, c_576, c_577⟩ := hw
          exact absurd (c_505.symm.trans c_571) (by decide)
        · obtain ⟨c_578, c_579, c_580, c_581, c_582, c_583, c_584, c_585, c_586⟩ := hw
          exact absurd (c_505.symm.trans c_578) (by decide)
        · obtain ⟨c_587, c_588, c_589, c_590, c_591, c_592, c_593, c_594, c_595, c_596⟩ := hw
          exact absurd (c_505.symm.trans c_587) (by decide)
        · obtain ⟨c_597, c_598⟩ := hw
          exact absurd (c_505.symm.trans c_597) (by decide)
        · obtain ⟨c_599, c_600, c_601⟩ := hw
          exact absurd (c_505.symm.trans c_599) (by decide)
        · obtain ⟨c_602, c_603, c_604, c_605⟩ := hw
          exact absurd (c_505.symm.trans c_602) (by decide)
        · obtain ⟨c_606, c_607, c_608, c_609, c_610⟩ := hw
          exact absurd (c_505.symm.trans c_606) (by decide)
        · obtain ⟨c_611, c_612, c_613, c_614, c_615, c_616⟩ := hw
          exact absurd (c_505.symm.trans c_611) (by decide)
        · obtain ⟨c_617, c_618, c_619, c_620, c_621, c_622, c_623, c_624⟩ := hw
          exact absurd (c_505.symm.trans c_617) (by decide)
        · obtain ⟨c_625, c_626, c_627, c_628, c_629, c_630, c_631, c_632, c_633⟩ := hw
          exact absurd (c_505.symm.trans c_625) (by decide)
        · obtain ⟨c_634, c_635, c_636, c_637, c_638, c_639, c_640, c_641, c_642, c_643⟩ := hw
          exact absurd (c_505.symm.trans c_634) (by decide)
        · obtain ⟨c_644, c_645, c_646, c_647, c_648, c_649, c_650, c_651, c_652, c_653, c_654⟩ := hw
          exact absurd (c_505.symm.trans c_644) (by decide)
        · obtain ⟨c_655, c_656, c_657, c_658, c_659⟩ := hw
          exact absurd (c_505.symm.trans c_655) (by decide)
        · obtain ⟨c_660, c_661, c_662, c_663, c_664, c_665⟩ := hw
          exact absurd (c_505.symm.trans c_660) (by decide)
        · obtain ⟨c_666, c_667, c_668, c_669, c_670, c_671, c_672⟩ := hw
          exact absurd (c_505.symm.trans c_666) (by decide)
        · obtain ⟨c_673, c_674, c_675, c_676, c_677, c_678, c_679, c_680⟩ := hw
          exact absurd (c_505.symm.trans c_673) (by decide)
        · obtain ⟨c_681, c_682, c_683, c_684, c_685⟩ := hw
          exact absurd c_685 c_506
        · obtain ⟨c_686, c_687, c_688, c_689, c_690, c_691⟩ := hw
          obtain ⟨hP1, hD1⟩ := hB
          rw [ht1] at hP1
          obtain ⟨hP, hD⟩ := va_join (wr := [(o1, .inl (g 1, 1, .inr (.inl (fun _ => 0))))]) (w1 := [((a 200), .inr (21, [.int 1, .ref (a 201), .ref (a 202), .ref (a 203), .ref (a 204), .ref (a 205), .ref (a 206), .int 0, .int 0, .int 0, .int 0, .ref (a 208), .ref (a 209), .ref (a 210), .ref (a 211), .ref (a 212), .int 4, .int 12, .int (-1), .int 0, .ref (g 200), .ref (a 213), .int 0, .int 97, .ref (a 214), .ref (a 215), .ref (a 207), .null, .int 0]))]) hP hD [0] [1] rfl rfl (by decide) (by decide) hk1 hFc hP1 hD1
          have hP : va_P D vwCl [(o1, .inl (g 1, 1, .inr (.inl (fun _ => 0)))), ((a 200), .inr (21, [.int 1, .ref (a 201), .ref (a 202), .ref (a 203), .ref (a 204), .ref (a 205), .ref (a 206), .int 0, .int 0, .int 0, .int 0, .ref (a 208), .ref (a 209), .ref (a 210), .ref (a 211), .ref (a 212), .int 4, .int 12, .int (-1), .int 0, .ref (g 200), .ref (a 213), .int 0, .int 97, .ref (a 214), .ref (a 215), .ref (a 207), .null, .int 0]))] H := hP
          have hD : va_D (va_A [] s.heap.size) [(o1, .inl (g 1, 1, .inr (.inl (fun _ => 0)))), ((a 200), .inr (21, [.int 1, .ref (a 201), .ref (a 202), .ref (a 203), .ref (a 204), .ref (a 205), .ref (a 206), .int 0, .int 0, .int 0, .int 0, .ref (a 208), .ref (a 209), .ref (a 210), .ref (a 211), .ref (a 212), .int 4, .int 12, .int (-1), .int 0, .ref (g 200), .ref (a 213), .int 0, .int 97, .ref (a 214), .ref (a 215), .ref (a 207), .null, .int 0]))] := hD
          refine lv_istore (lv' := [(7, .int 0), (6, .int 1), (0, .ref b), (1, .ref (a 0)), (2, .ref (a 200)), (3, .ref o1), (4, .ref o2), (5, .int 0)]) hx hb dL_law_3285 hl (by decide) rfl (fun ls hl => ?_)
          refine lv_aload_n hx hb dL_law_3287 rfl (lv_at hl 4 rfl) ?_
          have hPc : va_P D vwCl [((a 200), .inr (21, [.int 1, .ref (a 201), .ref (a 202), .ref (a 203), .ref (a 204), .ref (a 205), .ref (a 206), .int 0, .int 0, .int 0, .int 0, .ref (a 208), .ref (a 209), .ref (a 210), .ref (a 211), .ref (a 212), .int 4, .int 12, .int (-1), .int 0, .ref (g 200), .ref (a 213), .int 0, .int 97, .ref (a 214), .ref (a 215), .ref (a 207), .null, .int 0]))] _ := hP.sub (ws' := [((a 200), .inr (21, [.int 1, .ref (a 201), .ref (a 202), .ref (a 203), .ref (a 204), .ref (a 205), .ref (a 206), .int 0, .int 0, .int 0, .int 0, .ref (a 208), .ref (a 209), .ref (a 210), .ref (a 211), .ref (a 212), .int 4, .int 12, .int (-1), .int 0, .ref (g 200), .ref (a 213), .int 0, .int 97, .ref (a 214), .ref (a 215), .ref (a 207), .null, .int 0]))]) [1] rfl
          have hDc : va_D (fun q => z0 ≤ q) [((a 200), .inr (21, [.int 1, .ref (a 201), .ref (a 202), .ref (a 203), .ref (a 204), .ref (a 205), .ref (a 206), .int 0, .int 0, .int 0, .int 0, .ref (a 208), .ref (a 209), .ref (a 210), .ref (a 211), .ref (a 212), .int 4, .int 12, .int (-1), .int 0, .ref (g 200), .ref (a 213), .int 0, .int 97, .ref (a 214), .ref (a 215), .ref (a 207), .null, .int 0]))] := (hD.to hAz).pick (ws' := [((a 200), .inr (21, [.int 1, .ref (a 201), .ref (a 202), .ref (a 203), .ref (a 204), .ref (a 205), .ref (a 206), .int 0, .int 0, .int 0, .int 0, .ref (a 208), .ref (a 209), .ref (a 210), .ref (a 211), .ref (a 212), .int 4, .int 12, .int (-1), .int 0, .ref (g 200), .ref (a 213), .int 0, .int 97, .ref (a 214), .ref (a 215), .ref (a 207), .null, .int 0]))]) [1] (by decide) rfl
          have hFc := va_free (wc := [((a 200), .inr (21, [.int 1, .ref (a 201), .ref (a 202), .ref (a 203), .ref (a 204), .ref (a 205), .ref (a 206), .int 0, .int 0, .int 0, .int 0, .ref (a 208), .ref (a 209), .ref (a 210), .ref (a 211), .ref (a 212), .int 4, .int 12, .int (-1), .int 0, .ref (g 200), .ref (a 213), .int 0, .int 97, .ref (a 214), .ref (a 215), .ref (a 207), .null, .int 0]))]) hD hS hA [1] rfl
          refine va_calli (va_runV (As := []) (rest := []) ⟨hx, hb, hml, hown, ht⟩ (k_X15_thrown_v2 l D g z0 _ a) (cwV 0 ht (gV w_772 w_774 w_775 w_334 w_773) rfl rfl rfl (by decide +kernel) (le2 rfl rfl)) ⟨PP.blind, va_recv hK.1 hP (ci := 21) (q0 := 1) rfl rfl, PP.mk' hK hZ hz hAz hS hPc hDc⟩ rfl rfl hl.1 rfl (lv_room (Nat.le_of_ble_eq_true rfl)) dL_law_3288 (le2 rfl rfl)) hS (fun q _ h => hFc q h) hFc (fun r u t H locs ht1 hvm hw hB hz1 hk1 hS => ?_)
          obtain ⟨rfl, hw⟩ := hw
          obtain ⟨hP1, hD1⟩ := hB
          rw [ht1] at hP1
          obtain ⟨hP, hD⟩ := va_join (wr := [(o1, .inl (g 1, 1, .inr (.inl (fun _ => 0))))]) (w1 := [((a 200), .inr (21, [.int 1, .ref (a 201), .ref (a 202), .ref (a 203), .ref (a 204), .ref (a 205), .ref (a 206), .int 0, .int 0, .int 0, .int 0, .ref (a 208), .ref (a 209), .ref (a 210), .ref (a 211), .ref (a 212), .int 4, .int 12, .int (-1), .int 0, .ref (g 200), .ref (a 213), .int 0, .int 97, .ref (a 214), .ref (a 215), .ref (a 207), .null, .int 0]))]) hP hD [1] [0] rfl rfl (by decide) (by decide) hk1 hFc hP1 hD1
          have hP : va_P D vwCl [(o1, .inl (g 1, 1, .inr (.inl (fun _ => 0)))), ((a 200), .inr (21, [.int 1, .ref (a 201), .ref (a 202), .ref (a 203), .ref (a 204), .ref (a 205), .ref (a 206), .int 0, .int 0, .int 0, .int 0, .ref (a 208), .ref (a 209), .ref (a 210), .ref (a 211), .ref (a 212), .int 4, .int 12, .int (-1), .int 0, .ref (g 200), .ref (a 213), .int 0, .int 97, .ref (a 214), .ref (a 215), .ref (a 207), .null, .int 0]))] H := hP
          have hD : va_D (va_A [] s.heap.size) [(o1, .inl (g 1, 1, .inr (.inl (fun _ => 0)))), ((a 200), .inr (21, [.int 1, .ref (a 201), .ref (a 202), .ref (a 203), .ref (a 204), .ref (a 205), .ref (a 206), .int 0, .int 0, .int 0, .int 0, .ref (a 208), .ref (a 209), .ref (a 210), .ref (a 211), .ref (a 212), .int 4, .int 12, .int (-1), .int 0, .ref (g 200), .ref (a 213), .int 0, .int 97, .ref (a 214), .ref (a 215), .ref (a 207), .null, .int 0]))] := hD
          refine lv_iload hx hb dL_law_3291 (lv_at hl 1 rfl) ?_
          refine lv_icmp_eq (tgt := 3298) hx hb dL_law_3293 (by decide) (fun c_692 => ?_) (fun c_692 => ?_)
          · refine lv_iload hx hb dL_law_3298 (lv_at hl 1 rfl) ?_
            refine lv_if_ne (tgt := 3322) hx hb dL_law_3300 (by decide) (fun c_693 => ?_) (fun c_693 => ?_)
            · refine lv_goto (tgt := 4264) hx hb dL_law_3322 (by decide) ?_
              refine W.widen (k := 200 + 300) (n := 8000 + 2000) (Nat.le_of_ble_eq_true rfl) (Nat.le_of_ble_eq_true rfl) ?_
              exact kk _ _ _ hS (lv_sub hl [7, 2] rfl)
            · exact absurd c_693 (by decide)
          · exact absurd c_692 (by decide)
        · obtain ⟨c_694, c_695, c_696, c_697, c_698, c_699, c_700⟩ := hw
          exact absurd (Int.le_trans (lo_nlt c_507) (up_nlt c_699)) (by decide)
        · obtain ⟨c_701, c_702, c_703, c_704, c_705, c_706, c_707, c_708⟩ := hw
          exact absurd (Int.le_trans (lo_nlt c_507) (up_nlt c_706)) (by decide)
      · obtain ⟨rfl, rfl, hw⟩ := hw
        rcases hw with hw | hw | hw | hw | hw
        · obtain ⟨c_709, c_710, c_711, c_712, c_713, c_714, c_715, c_716⟩ := hw
          exact absurd (c_505.symm.trans c_709) (by decide)
        · obtain ⟨c_717, c_718, c_719, c_720, c_721, c_722, c_723, c_724, c_725, c_726⟩ := hw
          exact absurd (c_505.symm.trans c_717) (by decide)
        · obtain ⟨c_727, c_728, c_729, c_730, c_731, c_732, c_733, c_734, c_735, c_736, c_737⟩ := hw
          exact absurd (c_505.symm.trans c_727) (by decide)
        · obtain ⟨c_738, c_739, c_740, c_741, c_742, c_743, c_744, c_745⟩ := hw
          exact absurd (c_505.symm.trans c_738) (by decide)
        · obtain ⟨c_746, c_747, c_748, c_749, c_750, c_751, c_752, c_753⟩ := hw
          exact absurd (Int.le_trans (lo_nlt c_507) (up_nlt c_751)) (by decide)
    · obtain ⟨c_754, c_755, c_756⟩ := hw
      obtain ⟨hP1, hD1⟩ := hB
      rw [ht1] at hP1
      obtain ⟨hP, hD⟩ := va_join (wr := [((a 200), f_m a g)]) (w1 := [(o1, .inl (g 1, 1, .inr (.inl (fun _ => 0))))]) hP hD [3, 0, 1] [2] rfl rfl (by decide) (by decide) hk1 hFc hP1 hD1
      have hP : va_P D vwCl [((a 200), f_m a g), (o1, .inl (g 1, 1, .inr (.inl (fun _ => 0))))] H := hP
      have hD : va_D (va_A [] s.heap.size) [((a 200), f_m a g), (o1, .inl (g 1, 1, .inr (.inl (fun _ => 0))))] := hD
      refine lv_istore (lv' := [(6, .int 1), (0, .ref b), (1, .ref (a 0)), (2, .ref (a 200)), (3, .ref o1), (4, .ref o2), (5, .int 0)]) hx hb dL_law_3248 hl (by decide) rfl (fun ls hl => ?_)
      refine lv_aload_n hx hb dL_law_3250 rfl (lv_at hl 3 rfl) ?_
      refine lv_aload_n hx hb dL_law_3251 rfl (lv_at hl 1 rfl) ?_
      refine lv_iload hx hb dL_law_3252 (lv_at hl 6 rfl) ?_
      refine lv_iconst (v := 1) hx hb dL_law_3254 (by decide) ?_
      refine lv_iadd hx hb dL_law_3255 ?_
      refine r_topi (v := 1) (by decide) ?_
      refine va_sld hx hb hX hbl hbA hS (by unfold vp_in; decide) dL_law_3256 ?_
      refine r_topi (v := xs 1) (congrArg xs (by decide)) ?_
      refine lv_i2c (v := ((xs 1).toUInt32 % 65536).toInt32) hx hb dL_law_3257 rfl ?_
      refine lv_aload_n hx hb dL_law_3258 rfl (lv_at hl 1 rfl) ?_
      refine lv_iload hx hb dL_law_3259 (lv_at hl 6 rfl) ?_
      refine lv_iconst (v := 2) hx hb dL_law_3261 (by decide) ?_
      refine lv_iadd hx hb dL_law_3262 ?_
      refine r_topi (v := 2) (by decide) ?_
      refine va_sld hx hb hX hbl hbA hS (by unfold vp_in; decide) dL_law_3263 ?_
      refine r_topi (v := xs 2) (congrArg xs (by decide)) ?_
      refine lv_aload_n hx hb dL_law_3264 rfl (lv_at hl 1 rfl) ?_
      refine lv_iload hx hb dL_law_3265 (lv_at hl 6 rfl) ?_
      refine lv_iconst (v := 3) hx hb dL_law_3267 (by decide) ?_
      refine lv_iadd hx hb dL_law_3268 ?_
      refine r_topi (v := 3) (by decide) ?_
      refine va_sld hx hb hX hbl hbA hS (by unfold vp_in; decide) dL_law_3269 ?_
      refine r_topi (v := xs 3) (congrArg xs (by decide)) ?_
      refine lv_aload_n hx hb dL_law_3270 rfl (lv_at hl 1 rfl) ?_
      refine lv_iload hx hb dL_law_3271 (lv_at hl 6 rfl) ?_
      refine lv_iconst (v := 4) hx hb dL_law_3273 (by decide) ?_
      refine lv_iadd hx hb dL_law_3274 ?_
      refine r_topi (v := 4) (by decide) ?_
      refine va_sld hx hb hX hbl hbA hS (by unfold vp_in; decide) dL_law_3275 ?_
      refine r_topi (v := xs 4) (congrArg xs (by decide)) ?_
      refine lv_aload_n hx hb dL_law_3276 rfl (lv_at hl 1 rfl) ?_
      refine lv_iload hx hb dL_law_3277 (lv_at hl 6 rfl) ?_
      refine lv_iconst (v := 5) hx hb dL_law_3279 (by decide) ?_
      refine lv_iadd hx hb dL_law_3280 ?_
      refine r_topi (v := 5) (by decide) ?_
      refine va_sld hx hb hX hbl hbA hS (by unfold vp_in; decide) dL_law_3281 ?_
      refine r_topi (v := xs 5) (congrArg xs (by decide)) ?_
      have hPc : va_P D vwCl [((a 200), f_m a g)] _ := hP.sub (ws' := [((a 200), f_m a g)]) [0] rfl
      have hDc : va_D (fun q => z0 ≤ q) [((a 200), f_m a g)] := (hD.to hAz).pick (ws' := [((a 200), f_m a g)]) [0] (by decide) rfl
      have hFc := va_free (wc := [((a 200), f_m a g)]) hD hS hA [0] rfl
      refine va_calli (va_runV (As := [.int (((xs 1).toUInt32 % 65536).toInt32), .int (xs 2), .int (xs 3), .int (xs 4), .int (xs 5)]) (rest := []) ⟨hx, hb, hml, hown, ht⟩ (k_X15_marchFinds l D g z0 _ a (((xs 1).toUInt32 % 65536).toInt32) (xs 2) (xs 3) (xs 4) (xs 5) (isC_i2c _)) (cwV 5 ht (gV w_1231 w_1233 w_1234 w_334 w_1232) rfl rfl rfl (by decide +kernel) (le2 rfl rfl)) ⟨PP.blind, va_recv hK.1 hP (ci := 21) (q0 := 0) rfl rfl, PP.mk' hK hZ hz hAz hS hPc hDc⟩ rfl rfl hl.1 rfl (lv_room (Nat.le_of_ble_eq_true rfl)) dL_law_3282 (le2 rfl rfl)) hS (fun q _ h => hFc q h) hFc (fun r u t H locs ht1 hvm hw hB hz1 hk1 hS => ?_)
      rcases hw with hw | hw
      · obtain ⟨rfl, rfl, hw⟩ := hw
        rcases hw with hw | hw | hw | hw | hw | hw | hw | hw | hw | hw | hw | hw | hw | hw | hw | hw | hw | hw | hw | hw | hw | hw | hw | hw | hw | hw | hw | hw | hw | hw | hw | hw
        · obtain ⟨c_757, c_758, c_759, c_760, c_761⟩ := hw
          exact absurd c_755 c_758
        · obtain ⟨c_762, c_763, c_764, c_765, c_766⟩ := hw
          exact absurd c_755 c_763
        · obtain ⟨c_767, c_768, c_769, c_770, c_771⟩ := hw
          exact absurd c_755 c_768
        · obtain ⟨c_772, c_773, c_774, c_775⟩ := hw
          exact absurd (c_755.symm.trans c_772) (by decide)
        · obtain ⟨c_776, c_777, c_778, c_779, c_780⟩ := hw
          exact absurd (c_755.symm.trans c_776) (by decide)
        · obtain ⟨c_781, c_782, c_783, c_784, c_785, c_786⟩ := hw
          exact absurd (c_755.symm.trans c_781) (by decide)
        · obtain ⟨c_787, c_788, c_789, c_790, c_791, c_792, c_793⟩ := hw
          exact absurd (c_755.symm.trans c_787) (by decide)
        · obtain ⟨c_794, c_795, c_796, c_797, c_798, c_799, c_800, c_801⟩ := hw
          exact absurd (c_755.symm.trans c_794) (by decide)
        · obtain ⟨c_802, c_803, c_804⟩ := hw
          exact absurd (c_755.symm.trans c_802) (by decide)
        · obtain ⟨c_805, c_806, c_807, c_808⟩ := hw
          exact absurd (c_755.symm.trans c_805) (by decide)
        · obtain ⟨c_809, c_810, c_811, c_812, c_813⟩ := hw
          exact absurd (c_755.symm.trans c_809) (by decide)
        · obtain ⟨c_814, c_815, c_816, c_817, c_818, c_819⟩ := hw
          exact absurd (c_755.symm.trans c_814) (by decide)
        · obtain ⟨c_820, c_821, c_822, c_823, c_824, c_825, c_826⟩ := hw
          exact absurd (c_755.symm.trans c_820) (by decide)
        · obtain ⟨c_827, c_828, c_829, c_830, c_831, c_832, c_833, c_834, c_835⟩ := hw
          exact absurd (c_755.symm.trans c_827) (by decide)
        · obtain ⟨c_836, c_837, c_838, c_839, c_840, c_841, c_842, c_843, c_844, c_845⟩ := hw
          exact absurd (c_755.symm.trans c_836) (by decide)
        · obtain ⟨c_846, c_847⟩ := hw
          exact absurd (c_755.symm.trans c_846) (by decide)
        · obtain ⟨c_848, c_849, c_850⟩ := hw
          exact absurd (c_755.symm.trans c_848) (by decide)
        · obtain ⟨c_851, c_852, c_853, c_854⟩ := hw
          exact absurd (c_755.symm.trans c_851) (by decide)
        · obtain ⟨c_855, c_856, c_857, c_858, c_859⟩ := hw
          exact absurd (c_755.symm.trans c_855) (by decide)
        · obtain ⟨c_860, c_861, c_862, c_863, c_864, c_865⟩ := hw
          exact absurd (c_755.symm.trans c_860) (by decide)
        · obtain ⟨c_866, c_867, c_868, c_869, c_870, c_871, c_872, c_873⟩ := hw
          exact absurd (c_755.symm.trans c_866) (by decide)
        · obtain ⟨c_874, c_875, c_876, c_877, c_878, c_879, c_880, c_881, c_882⟩ := hw
          exact absurd (c_755.symm.trans c_874) (by decide)
        · obtain ⟨c_883, c_884, c_885, c_886, c_887, c_888, c_889, c_890, c_891, c_892⟩ := hw
          exact absurd (c_755.symm.trans c_883) (by decide)
        · obtain ⟨c_893, c_894, c_895, c_896, c_897, c_898, c_899, c_900, c_901, c_902, c_903⟩ := hw
          exact absurd (c_755.symm.trans c_893) (by decide)
        · obtain ⟨c_904, c_905, c_906, c_907, c_908⟩ := hw
          obtain ⟨hP1, hD1⟩ := hB
          rw [ht1] at hP1
          obtain ⟨hP, hD⟩ := va_join (wr := [(o1, .inl (g 1, 1, .inr (.inl (fun _ => 0))))]) (w1 := [((a 200), .inr (21, [.int 1, .ref (a 201), .ref (a 202), .ref (a 203), .ref (a 204), .ref (a 205), .ref (a 206), .int 0, .int 0, .int 0, .int 0, .ref (a 208), .ref (a 209), .ref (a 210), .ref (a 211), .ref (a 212), .int 4, .int 12, .int (-1), .int 0, .ref (g 200), .ref (a 213), .int 0, .int 97, .ref (a 214), .ref (a 215), .ref (a 207), .null, .int 0]))]) hP hD [0] [1] rfl rfl (by decide) (by decide) hk1 hFc hP1 hD1
          have hP : va_P D vwCl [(o1, .inl (g 1, 1, .inr (.inl (fun _ => 0)))), ((a 200), .inr (21, [.int 1, .ref (a 201), .ref (a 202), .ref (a 203), .ref (a 204), .ref (a 205), .ref (a 206), .int 0, .int 0, .int 0, .int 0, .ref (a 208), .ref (a 209), .ref (a 210), .ref (a 211), .ref (a 212), .int 4, .int 12, .int (-1), .int 0, .ref (g 200), .ref (a 213), .int 0, .int 97, .ref (a 214), .ref (a 215), .ref (a 207), .null, .int 0]))] H := hP
          have hD : va_D (va_A [] s.heap.size) [(o1, .inl (g 1, 1, .inr (.inl (fun _ => 0)))), ((a 200), .inr (21, [.int 1, .ref (a 201), .ref (a 202), .ref (a 203), .ref (a 204), .ref (a 205), .ref (a 206), .int 0, .int 0, .int 0, .int 0, .ref (a 208), .ref (a 209), .ref (a 210), .ref (a 211), .ref (a 212), .int 4, .int 12, .int (-1), .int 0, .ref (g 200), .ref (a 213), .int 0, .int 97, .ref (a 214), .ref (a 215), .ref (a 207), .null, .int 0]))] := hD
          refine lv_istore (lv' := [(7, .int 0), (6, .int 1), (0, .ref b), (1, .ref (a 0)), (2, .ref (a 200)), (3, .ref o1), (4, .ref o2), (5, .int 0)]) hx hb dL_law_3285 hl (by decide) rfl (fun ls hl => ?_)
          refine lv_aload_n hx hb dL_law_3287 rfl (lv_at hl 4 rfl) ?_
          have hPc : va_P D vwCl [((a 200), .inr (21, [.int 1, .ref (a 201), .ref (a 202), .ref (a 203), .ref (a 204), .ref (a 205), .ref (a 206), .int 0, .int 0, .int 0, .int 0, .ref (a 208), .ref (a 209), .ref (a 210), .ref (a 211), .ref (a 212), .int 4, .int 12, .int (-1), .int 0, .ref (g 200), .ref (a 213), .int 0, .int 97, .ref (a 214), .ref (a 215), .ref (a 207), .null, .int 0]))] _ := hP.sub (ws' := [((a 200), .inr (21, [.int 1, .ref (a 201), .ref (a 202), .ref (a 203), .ref (a 204), .ref (a 205), .ref (a 206), .int 0, .int 0, .int 0, .int 0, .ref (a 208), .ref (a 209), .ref (a 210), .ref (a 211), .ref (a 212), .int 4, .int 12, .int (-1), .int 0, .ref (g 200), .ref (a 213), .int 0, .int 97, .ref (a 214), .ref (a 215), .ref (a 207), .null, .int 0]))]) [1] rfl
          have hDc : va_D (fun q => z0 ≤ q) [((a 200), .inr (21, [.int 1, .ref (a 201), .ref (a 202), .ref (a 203), .ref (a 204), .ref (a 205), .ref (a 206), .int 0, .int 0, .int 0, .int 0, .ref (a 208), .ref (a 209), .ref (a 210), .ref (a 211), .ref (a 212), .int 4, .int 12, .int (-1), .int 0, .ref (g 200), .ref (a 213), .int 0, .int 97, .ref (a 214), .ref (a 215), .ref (a 207), .null, .int 0]))] := (hD.to hAz).pick (ws' := [((a 200), .inr (21, [.int 1, .ref (a 201), .ref (a 202), .ref (a 203), .ref (a 204), .ref (a 205), .ref (a 206), .int 0, .int 0, .int 0, .int 0, .ref (a 208), .ref (a 209), .ref (a 210), .ref (a 211), .ref (a 212), .int 4, .int 12, .int (-1), .int 0, .ref (g 200), .ref (a 213), .int 0, .int 97, .ref (a 214), .ref (a 215), .ref (a 207), .null, .int 0]))]) [1] (by decide) rfl
          have hFc := va_free (wc := [((a 200), .inr (21, [.int 1, .ref (a 201), .ref (a 202), .ref (a 203), .ref (a 204), .ref (a 205), .ref (a 206), .int 0, .int 0, .int 0, .int 0, .ref (a 208), .ref (a 209), .ref (a 210), .ref (a 211), .ref (a 212), .int 4, .int 12, .int (-1), .int 0, .ref (g 200), .ref (a 213), .int 0, .int 97, .ref (a 214), .ref (a 215), .ref (a 207), .null, .int 0]))]) hD hS hA [1] rfl
          refine va_calli (va_runV (As := []) (rest := []) ⟨hx, hb, hml, hown, ht⟩ (k_X15_thrown_v2 l D g z0 _ a) (cwV 0 ht (gV w_772 w_774 w_775 w_334 w_773) rfl rfl rfl (by decide +kernel) (le2 rfl rfl)) ⟨PP.blind, va_recv hK.1 hP (ci := 21) (q0 := 1) rfl rfl, PP.mk' hK hZ hz hAz hS hPc hDc⟩ rfl rfl hl.1 rfl (lv_room (Nat.le_of_ble_eq_true rfl)) dL_law_3288 (le2 rfl rfl)) hS (fun q _ h => hFc q h) hFc (fun r u t H locs ht1 hvm hw hB hz1 hk1 hS => ?_)
          obtain ⟨rfl, hw⟩ := hw
          obtain ⟨hP1, hD1⟩ := hB
          rw [ht1] at hP1
          obtain ⟨hP, hD⟩ := va_join (wr := [(o1, .inl (g 1, 1, .inr (.inl (fun _ => 0))))]) (w1 := [((a 200), .inr (21, [.int 1, .ref (a 201), .ref (a 202), .ref (a 203), .ref (a 204), .ref (a 205), .ref (a 206), .int 0, .int 0, .int 0, .int 0, .ref (a 208), .ref (a 209), .ref (a 210), .ref (a 211), .ref (a 212), .int 4, .int 12, .int (-1), .int 0, .ref (g 200), .ref (a 213), .int 0, .int 97, .ref (a 214), .ref (a 215), .ref (a 207), .null, .int 0]))]) hP hD [1] [0] rfl rfl (by decide) (by decide) hk1 hFc hP1 hD1
          have hP : va_P D vwCl [(o1, .inl (g 1, 1, .inr (.inl (fun _ => 0)))), ((a 200), .inr (21, [.int 1, .ref (a 201), .ref (a 202), .ref (a 203), .ref (a 204), .ref (a 205), .ref (a 206), .int 0, .int 0, .int 0, .int 0, .ref (a 208), .ref (a 209), .ref (a 210), .ref (a 211), .ref (a 212), .int 4, .int 12, .int (-1), .int 0, .ref (g 200), .ref (a 213), .int 0, .int 97, .ref (a 214), .ref (a 215), .ref (a 207), .null, .int 0]))] H := hP
          have hD : va_D (va_A [] s.heap.size) [(o1, .inl (g 1, 1, .inr (.inl (fun _ => 0)))), ((a 200), .inr (21, [.int 1, .ref (a 201), .ref (a 202), .ref (a 203), .ref (a 204), .ref (a 205), .ref (a 206), .int 0, .int 0, .int 0, .int 0, .ref (a 208), .ref (a 209), .ref (a 210), .ref (a 211), .ref (a 212), .int 4, .int 12, .int (-1), .int 0, .ref (g 200), .ref (a 213), .int 0, .int 97, .ref (a 214), .ref (a 215), .ref (a 207), .null, .int 0]))] := hD
          refine lv_iload hx hb dL_law_3291 (lv_at hl 1 rfl) ?_
          refine lv_icmp_eq (tgt := 3298) hx hb dL_law_3293 (by decide) (fun c_909 => ?_) (fun c_909 => ?_)
          · refine lv_iload hx hb dL_law_3298 (lv_at hl 1 rfl) ?_
            refine lv_if_ne (tgt := 3322) hx hb dL_law_3300 (by decide) (fun c_910 => ?_) (fun c_910 => ?_)
            · refine lv_goto (tgt := 4264) hx hb dL_law_3322 (by decide) ?_
              refine W.widen (k := 200 + 300) (n := 8000 + 2000) (Nat.le_of_ble_eq_true rfl) (Nat.le_of_ble_eq_true rfl) ?_
              exact kk _ _ _ hS (lv_sub hl [7, 2] rfl)
            · exact absurd c_910 (by decide)
          · exact absurd c_909 (by decide)
        · obtain ⟨c_911, c_912, c_913, c_914, c_915, c_916⟩ := hw
          exact absurd c_756 c_915
        · obtain ⟨c_917, c_918, c_919, c_920, c_921, c_922, c_923⟩ := hw
          exact absurd c_756 c_921
        · obtain ⟨c_924, c_925, c_926, c_927, c_928, c_929, c_930, c_931⟩ := hw
          exact absurd c_756 c_928
        · obtain ⟨c_932, c_933, c_934, c_935, c_936⟩ := hw
          exact absurd c_932 c_754
        · obtain ⟨c_937, c_938, c_939, c_940, c_941, c_942⟩ := hw
          exact absurd c_937 c_754
        · obtain ⟨c_943, c_944, c_945, c_946, c_947, c_948, c_949⟩ := hw
          exact absurd c_943 c_754
        · obtain ⟨c_950, c_951, c_952, c_953, c_954, c_955, c_956, c_957⟩ := hw
          exact absurd c_950 c_754
      · obtain ⟨rfl, rfl, hw⟩ := hw
        rcases hw with hw | hw | hw | hw | hw
        · obtain ⟨c_958, c_959, c_960, c_961, c_962, c_963, c_964, c_965⟩ := hw
          exact absurd (c_755.symm.trans c_958) (by decide)
        · obtain ⟨c_966, c_967, c_968, c_969, c_970, c_971, c_972, c_973, c_974, c_975⟩ := hw
          exact absurd (c_755.symm.trans c_966) (by decide)
        · obtain ⟨c_976, c_977, c_978, c_979, c_980, c_981, c_982, c_983, c_984, c_985, c_986⟩ := hw
          exact absurd (c_755.symm.trans c_976) (by decide)
        · obtain ⟨c_987, c_988, c_989, c_990, c_991, c_992, c_993, c_994⟩ := hw
          exact absurd c_756 c_991
        · obtain ⟨c_995, c_996, c_997, c_998, c_999, c_1000, c_1001, c_1002⟩ := hw
          exact absurd c_995 c_754
    · obtain ⟨c_1003, c_1004, c_1005, c_1006, c_1007, c_1008, c_1009, c_1010, c_1011⟩ := hw
      obtain ⟨hP1, hD1⟩ := hB
      rw [ht1] at hP1
      obtain ⟨hP, hD⟩ := va_join (wr := [((a 200), f_m a g)]) (w1 := [(o1, .inl (g 1, 1, .inr (.inl (fun _ => 0))))]) hP hD [3, 0, 1] [2] rfl rfl (by decide) (by decide) hk1 hFc hP1 hD1
      have hP : va_P D vwCl [((a 200), f_m a g), (o1, .inl (g 1, 1, .inr (.inl (fun _ => 0))))] H := hP
      have hD : va_D (va_A [] s.heap.size) [((a 200), f_m a g), (o1, .inl (g 1, 1, .inr (.inl (fun _ => 0))))] := hD
      refine lv_istore (lv' := [(6, .int 1), (0, .ref b), (1, .ref (a 0)), (2, .ref (a 200)), (3, .ref o1), (4, .ref o2), (5, .int 0)]) hx hb dL_law_3248 hl (by decide) rfl (fun ls hl => ?_)
      refine lv_aload_n hx hb dL_law_3250 rfl (lv_at hl 3 rfl) ?_
      refine lv_aload_n hx hb dL_law_3251 rfl (lv_at hl 1 rfl) ?_
      refine lv_iload hx hb dL_law_3252 (lv_at hl 6 rfl) ?_
      refine lv_iconst (v := 1) hx hb dL_law_3254 (by decide) ?_
      refine lv_iadd hx hb dL_law_3255 ?_
      refine r_topi (v := 1) (by decide) ?_
      refine va_sld hx hb hX hbl hbA hS (by unfold vp_in; decide) dL_law_3256 ?_
      refine r_topi (v := xs 1) (congrArg xs (by decide)) ?_
      refine lv_i2c (v := ((xs 1).toUInt32 % 65536).toInt32) hx hb dL_law_3257 rfl ?_
      refine lv_aload_n hx hb dL_law_3258 rfl (lv_at hl 1 rfl) ?_
      refine lv_iload hx hb dL_law_3259 (lv_at hl 6 rfl) ?_
      refine lv_iconst (v := 2) hx hb dL_law_3261 (by decide) ?_
      refine lv_iadd hx hb dL_law_3262 ?_
      refine r_topi (v := 2) (by decide) ?_
      refine va_sld hx hb hX hbl hbA hS (by unfold vp_in; decide) dL_law_3263 ?_
      refine r_topi (v := xs 2) (congrArg xs (by decide)) ?_
      refine lv_aload_n hx hb dL_law_3264 rfl (lv_at hl 1 rfl) ?_
      refine lv_iload hx hb dL_law_3265 (lv_at hl 6 rfl) ?_
      refine lv_iconst (v := 3) hx hb dL_law_3267 (by decide) ?_
      refine lv_iadd hx hb dL_law_3268 ?_
      refine r_topi (v := 3) (by decide) ?_
      refine va_sld hx hb hX hbl hbA hS (by unfold vp_in; decide) dL_law_3269 ?_
      refine r_topi (v := xs 3) (congrArg xs (by decide)) ?_
      refine lv_aload_n hx hb dL_law_3270 rfl (lv_at hl 1 rfl) ?_
      refine lv_iload hx hb dL_law_3271 (lv_at hl 6 rfl) ?_
      refine lv_iconst (v := 4) hx hb dL_law_3273 (by decide) ?_
      refine lv_iadd hx hb dL_law_3274 ?_
      refine r_topi (v := 4) (by decide) ?_
      refine va_sld hx hb hX hbl hbA hS (by unfold vp_in; decide) dL_law_3275 ?_
      refine r_topi (v := xs 4) (congrArg xs (by decide)) ?_
      refine lv_aload_n hx hb dL_law_3276 rfl (lv_at hl 1 rfl) ?_
      refine lv_iload hx hb dL_law_3277 (lv_at hl 6 rfl) ?_
      refine lv_iconst (v := 5) hx hb dL_law_3279 (by decide) ?_
      refine lv_iadd hx hb dL_law_3280 ?_
      refine r_topi (v := 5) (by decide) ?_
      refine va_sld hx hb hX hbl hbA hS (by unfold vp_in; decide) dL_law_3281 ?_
      refine r_topi (v := xs 5) (congrArg xs (by decide)) ?_
      have hPc : va_P D vwCl [((a 200), f_m a g)] _ := hP.sub (ws' := [((a 200), f_m a g)]) [0] rfl
      have hDc : va_D (fun q => z0 ≤ q) [((a 200), f_m a g)] := (hD.to hAz).pick (ws' := [((a 200), f_m a g)]) [0] (by decide) rfl
      have hFc := va_free (wc := [((a 200), f_m a g)]) hD hS hA [0] rfl
      refine va_calli (va_runV (As := [.int (((xs 1).toUInt32 % 65536).toInt32), .int (xs 2), .int (xs 3), .int (xs 4), .int (xs 5)]) (rest := []) ⟨hx, hb, hml, hown, ht⟩ (k_X15_marchFinds l D g z0 _ a (((xs 1).toUInt32 % 65536).toInt32) (xs 2) (xs 3) (xs 4) (xs 5) (isC_i2c _)) (cwV 5 ht (gV w_1231 w_1233 w_1234 w_334 w_1232) rfl rfl rfl (by decide +kernel) (le2 rfl rfl)) ⟨PP.blind, va_recv hK.1 hP (ci := 21) (q0 := 0) rfl rfl, PP.mk' hK hZ hz hAz hS hPc hDc⟩ rfl rfl hl.1 rfl (lv_room (Nat.le_of_ble_eq_true rfl)) dL_law_3282 (le2 rfl rfl)) hS (fun q _ h => hFc q h) hFc (fun r u t H locs ht1 hvm hw hB hz1 hk1 hS => ?_)
      rcases hw with hw | hw
      · obtain ⟨rfl, rfl, hw⟩ := hw
        rcases hw with hw | hw | hw | hw | hw | hw | hw | hw | hw | hw | hw | hw | hw | hw | hw | hw | hw | hw | hw | hw | hw | hw | hw | hw | hw | hw | hw | hw | hw | hw | hw | hw
        · obtain ⟨c_1012, c_1013, c_1014, c_1015, c_1016⟩ := hw
          exact absurd c_1004 c_1013
        · obtain ⟨c_1017, c_1018, c_1019, c_1020, c_1021⟩ := hw
          exact absurd c_1004 c_1018
        · obtain ⟨c_1022, c_1023, c_1024, c_1025, c_1026⟩ := hw
          exact absurd c_1004 c_1023
        · obtain ⟨c_1027, c_1028, c_1029, c_1030⟩ := hw
          exact absurd (c_1004.symm.trans c_1027) (by decide)
        · obtain ⟨c_1031, c_1032, c_1033, c_1034, c_1035⟩ := hw
          exact absurd (c_1004.symm.trans c_1031) (by decide)
        · obtain ⟨c_1036, c_1037, c_1038, c_1039, c_1040, c_1041⟩ := hw
          exact absurd (c_1004.symm.trans c_1036) (by decide)
        · obtain ⟨c_1042, c_1043, c_1044, c_1045, c_1046, c_1047, c_1048⟩ := hw
          exact absurd (c_1004.symm.trans c_1042) (by decide)
        · obtain ⟨c_1049, c_1050, c_1051, c_1052, c_1053, c_1054, c_1055, c_1056⟩ := hw
          exact absurd (c_1004.symm.trans c_1049) (by decide)
        · obtain ⟨c_1057, c_1058, c_1059⟩ := hw
          exact absurd (c_1004.symm.trans c_1057) (by decide)
        · obtain ⟨c_1060, c_1061, c_1062, c_1063⟩ := hw
          exact absurd (c_1004.symm.trans c_1060) (by decide)
        · obtain ⟨c_1064, c_1065, c_1066, c_1067, c_1068⟩ := hw
          exact absurd (c_1004.symm.trans c_1064) (by decide)
        · obtain ⟨c_1069, c_1070, c_1071, c_1072, c_1073, c_1074⟩ := hw
          exact absurd (c_1004.symm.trans c_1069) (by decide)
        · obtain ⟨c_1075, c_1076, c_1077, c_1078, c_1079, c_1080, c_1081⟩ := hw
          exact absurd (c_1004.symm.trans c_1075) (by decide)
        · obtain ⟨c_1082, c_1083, c_1084, c_1085, c_1086, c_1087, c_1088, c_1089, c_1090⟩ := hw
          exact absurd (c_1004.symm.trans c_1082) (by decide)
        · obtain ⟨c_1091, c_1092, c_1093, c_1094, c_1095, c_1096, c_1097, c_1098, c_1099, c_1100⟩ := hw
          exact absurd (c_1004.symm.trans c_1091) (by decide)
        · obtain ⟨c_1101, c_1102⟩ := hw
          exact absurd (c_1004.symm.trans c_1101) (by decide)
        · obtain ⟨c_1103, c_1104, c_1105⟩ := hw
          exact absurd (c_1004.symm.trans c_1103) (by decide)
        · obtain ⟨c_1106, c_1107, c_1108, c_1109⟩ := hw
          exact absurd (c_1004.symm.trans c_1106) (by decide)
        · obtain ⟨c_1110, c_1111, c_1112, c_1113, c_1114⟩ := hw
          exact absurd (c_1004.symm.trans c_1110) (by decide)
        · obtain ⟨c_1115, c_1116, c_1117, c_1118, c_1119, c_1120⟩ := hw
          exact absurd (c_1004.symm.trans c_1115) (by decide)
        · obtain ⟨c_1121, c_1122, c_1123, c_1124, c_1125, c_1126, c_1127, c_1128⟩ := hw
          exact absurd (c_1004.symm.trans c_1121) (by decide)
        · obtain ⟨c_1129, c_1130, c_1131, c_1132, c_1133, c_1134, c_1135, c_1136, c_1137⟩ := hw
          exact absurd (c_1004.symm.trans c_1129) (by decide)
        · obtain ⟨c_1138, c_1139, c_1140, c_1141, c_1142, c_1143, c_1144, c_1145, c_1146, c_1147⟩ := hw
          exact absurd (c_1004.symm.trans c_1138) (by decide)
        · obtain ⟨c_1148, c_1149, c_1150, c_1151, c_1152, c_1153, c_1154, c_1155, c_1156, c_1157, c_1158⟩ := hw
          exact absurd (c_1004.symm.trans c_1148) (by decide)
        · obtain ⟨c_1159, c_1160, c_1161, c_1162, c_1163⟩ := hw
          exact absurd c_1163 c_1005
        · obtain ⟨c_1164, c_1165, c_1166, c_1167, c_1168, c_1169⟩ := hw
          exact absurd (Int.le_trans (lo_lt c_1169) (up_lt c_1006)) (by decide)
        · obtain ⟨c_1170, c_1171, c_1172, c_1173, c_1174, c_1175, c_1176⟩ := hw
          obtain ⟨hP1, hD1⟩ := hB
          rw [ht1] at hP1
          obtain ⟨hP, hD⟩ := va_join (wr := [(o1, .inl (g 1, 1, .inr (.inl (fun _ => 0))))]) (w1 := [((a 200), .inr (21, [.int 1, .ref (a 201), .ref (a 202), .ref (a 203), .ref (a 204), .ref (a 205), .ref (a 206), .int 0, .int 0, .int 0, .int 0, .ref (a 208), .ref (a 209), .ref (a 210), .ref (a 211), .ref (a 212), .int 4, .int 12, .int (-1), .int 0, .ref (g 200), .ref (a 213), .int 0, .int 97, .ref (a 214), .ref (a 215), .ref (a 207), .null, .int 0]))]) hP hD [0] [1] rfl rfl (by decide) (by decide) hk1 hFc hP1 hD1
          have hP : va_P D vwCl [(o1, .inl (g 1, 1, .inr (.inl (fun _ => 0)))), ((a 200), .inr (21, [.int 1, .ref (a 201), .ref (a 202), .ref (a 203), .ref (a 204), .ref (a 205), .ref (a 206), .int 0, .int 0, .int 0, .int 0, .ref (a 208), .ref (a 209), .ref (a 210), .ref (a 211), .ref (a 212), .int 4, .int 12, .int (-1), .int 0, .ref (g 200), .ref (a 213), .int 0, .int 97, .ref (a 214), .ref (a 215), .ref (a 207), .null, .int 0]))] H := hP
          have hD : va_D (va_A [] s.heap.size) [(o1, .inl (g 1, 1, .inr (.inl (fun _ => 0)))), ((a 200), .inr (21, [.int 1, .ref (a 201), .ref (a 202), .ref (a 203), .ref (a 204), .ref (a 205), .ref (a 206), .int 0, .int 0, .int 0, .int 0, .ref (a 208), .ref (a 209), .ref (a 210), .ref (a 211), .ref (a 212), .int 4, .int 12, .int (-1), .int 0, .ref (g 200), .ref (a 213), .int 0, .int 97, .ref (a 214), .ref (a 215), .ref (a 207), .null, .int 0]))] := hD
          refine lv_istore (lv' := [(7, .int 0), (6, .int 1), (0, .ref b), (1, .ref (a 0)), (2, .ref (a 200)), (3, .ref o1), (4, .ref o2), (5, .int 0)]) hx hb dL_law_3285 hl (by decide) rfl (fun ls hl => ?_)
          refine lv_aload_n hx hb dL_law_3287 rfl (lv_at hl 4 rfl) ?_
          have hPc : va_P D vwCl [((a 200), .inr (21, [.int 1, .ref (a 201), .ref (a 202), .ref (a 203), .ref (a 204), .ref (a 205), .ref (a 206), .int 0, .int 0, .int 0, .int 0, .ref (a 208), .ref (a 209), .ref (a 210), .ref (a 211), .ref (a 212), .int 4, .int 12, .int (-1), .int 0, .ref (g 200), .ref (a 213), .int 0, .int 97, .ref (a 214), .ref (a 215), .ref (a 207), .null, .int 0]))] _ := hP.sub (ws' := [((a 200), .inr (21, [.int 1, .ref (a 201), .ref (a 202), .ref (a 203), .ref (a 204), .ref (a 205), .ref (a 206), .int 0, .int 0, .int 0, .int 0, .ref (a 208), .ref (a 209), .ref (a 210), .ref (a 211), .ref (a 212), .int 4, .int 12, .int (-1), .int 0, .ref (g 200), .ref (a 213), .int 0, .int 97, .ref (a 214), .ref (a 215), .ref (a 207), .null, .int 0]))]) [1] rfl
          have hDc : va_D (fun q => z0 ≤ q) [((a 200), .inr (21, [.int 1, .ref (a 201), .ref (a 202), .ref (a 203), .ref (a 204), .ref (a 205), .ref (a 206), .int 0, .int 0, .int 0, .int 0, .ref (a 208), .ref (a 209), .ref (a 210), .ref (a 211), .ref (a 212), .int 4, .int 12, .int (-1), .int 0, .ref (g 200), .ref (a 213), .int 0, .int 97, .ref (a 214), .ref (a 215), .ref (a 207), .null, .int 0]))] := (hD.to hAz).pick (ws' := [((a 200), .inr (21, [.int 1, .ref (a 201), .ref (a 202), .ref (a 203), .ref (a 204), .ref (a 205), .ref (a 206), .int 0, .int 0, .int 0, .int 0, .ref (a 208), .ref (a 209), .ref (a 210), .ref (a 211), .ref (a 212), .int 4, .int 12, .int (-1), .int 0, .ref (g 200), .ref (a 213), .int 0, .int 97, .ref (a 214), .ref (a 215), .ref (a 207), .null, .int 0]))]) [1] (by decide) rfl
          have hFc := va_free (wc := [((a 200), .inr (21, [.int 1, .ref (a 201), .ref (a 202), .ref (a 203), .ref (a 204), .ref (a 205), .ref (a 206), .int 0, .int 0, .int 0, .int 0, .ref (a 208), .ref (a 209), .ref (a 210), .ref (a 211), .ref (a 212), .int 4, .int 12, .int (-1), .int 0, .ref (g 200), .ref (a 213), .int 0, .int 97, .ref (a 214), .ref (a 215), .ref (a 207), .null, .int 0]))]) hD hS hA [1] rfl
          refine va_calli (va_runV (As := []) (rest := []) ⟨hx, hb, hml, hown, ht⟩ (k_X15_thrown_v2 l D g z0 _ a) (cwV 0 ht (gV w_772 w_774 w_775 w_334 w_773) rfl rfl rfl (by decide +kernel) (le2 rfl rfl)) ⟨PP.blind, va_recv hK.1 hP (ci := 21) (q0 := 1) rfl rfl, PP.mk' hK hZ hz hAz hS hPc hDc⟩ rfl rfl hl.1 rfl (lv_room (Nat.le_of_ble_eq_true rfl)) dL_law_3288 (le2 rfl rfl)) hS (fun q _ h => hFc q h) hFc (fun r u t H locs ht1 hvm hw hB hz1 hk1 hS => ?_)
          obtain ⟨rfl, hw⟩ := hw
          obtain ⟨hP1, hD1⟩ := hB
          rw [ht1] at hP1
          obtain ⟨hP, hD⟩ := va_join (wr := [(o1, .inl (g 1, 1, .inr (.inl (fun _ => 0))))]) (w1 := [((a 200), .inr (21, [.int 1, .ref (a 201), .ref (a 202), .ref (a 203), .ref (a 204), .ref (a 205), .ref (a 206), .int 0, .int 0, .int 0, .int 0, .ref (a 208), .ref (a 209), .ref (a 210), .ref (a 211), .ref (a 212), .int 4, .int 12, .int (-1), .int 0, .ref (g 200), .ref (a 213), .int 0, .int 97, .ref (a 214), .ref (a 215), .ref (a 207), .null, .int 0]))]) hP hD [1] [0] rfl rfl (by decide) (by decide) hk1 hFc hP1 hD1
          have hP : va_P D vwCl [(o1, .inl (g 1, 1, .inr (.inl (fun _ => 0)))), ((a 200), .inr (21, [.int 1, .ref (a 201), .ref (a 202), .ref (a 203), .ref (a 204), .ref (a 205), .ref (a 206), .int 0, .int 0, .int 0, .int 0, .ref (a 208), .ref (a 209), .ref (a 210), .ref (a 211), .ref (a 212), .int 4, .int 12, .int (-1), .int 0, .ref (g 200), .ref (a 213), .int 0, .int 97, .ref (a 214), .ref (a 215), .ref (a 207), .null, .int 0]))] H := hP
          have hD : va_D (va_A [] s.heap.size) [(o1, .inl (g 1, 1, .inr (.inl (fun _ => 0)))), ((a 200), .inr (21, [.int 1, .ref (a 201), .ref (a 202), .ref (a 203), .ref (a 204), .ref (a 205), .ref (a 206), .int 0, .int 0, .int 0, .int 0, .ref (a 208), .ref (a 209), .ref (a 210), .ref (a 211), .ref (a 212), .int 4, .int 12, .int (-1), .int 0, .ref (g 200), .ref (a 213), .int 0, .int 97, .ref (a 214), .ref (a 215), .ref (a 207), .null, .int 0]))] := hD
          refine lv_iload hx hb dL_law_3291 (lv_at hl 1 rfl) ?_
          refine lv_icmp_eq (tgt := 3298) hx hb dL_law_3293 (by decide) (fun c_1177 => ?_) (fun c_1177 => ?_)
          · refine lv_iload hx hb dL_law_3298 (lv_at hl 1 rfl) ?_
            refine lv_if_ne (tgt := 3322) hx hb dL_law_3300 (by decide) (fun c_1178 => ?_) (fun c_1178 => ?_)
            · refine lv_goto (tgt := 4264) hx hb dL_law_3322 (by decide) ?_
              refine W.widen (k := 200 + 300) (n := 8000 + 2000) (Nat.le_of_ble_eq_true rfl) (Nat.le_of_ble_eq_true rfl) ?_
              exact kk _ _ _ hS (lv_sub hl [7, 2] rfl)
            · exact absurd c_1178 (by decide)
          · exact absurd c_1177 (by decide)
        · obtain ⟨c_1179, c_1180, c_1181, c_1182, c_1183, c_1184, c_1185, c_1186⟩ := hw
          obtain ⟨hP1, hD1⟩ := hB
          rw [ht1] at hP1
          obtain ⟨hP, hD⟩ := va_join (wr := [(o1, .inl (g 1, 1, .inr (.inl (fun _ => 0))))]) (w1 := [((a 200), .inr (21, [.int 1, .ref (a 201), .ref (a 202), .ref (a 203), .ref (a 204), .ref (a 205), .ref (a 206), .int 0, .int 0, .int 0, .int 0, .ref (a 208), .ref (a 209), .ref (a 210), .ref (a 211), .ref (a 212), .int 4, .int 12, .int (-1), .int 0, .ref (g 200), .ref (a 213), .int 0, .int 97, .ref (a 214), .ref (a 215), .ref (a 207), .null, .int 0]))]) hP hD [0] [1] rfl rfl (by decide) (by decide) hk1 hFc hP1 hD1
          have hP : va_P D vwCl [(o1, .inl (g 1, 1, .inr (.inl (fun _ => 0)))), ((a 200), .inr (21, [.int 1, .ref (a 201), .ref (a 202), .ref (a 203), .ref (a 204), .ref (a 205), .ref (a 206), .int 0, .int 0, .int 0, .int 0, .ref (a 208), .ref (a 209), .ref (a 210), .ref (a 211), .ref (a 212), .int 4, .int 12, .int (-1), .int 0, .ref (g 200), .ref (a 213), .int 0, .int 97, .ref (a 214), .ref (a 215), .ref (a 207), .null, .int 0]))] H := hP
          have hD : va_D (va_A [] s.heap.size) [(o1, .inl (g 1, 1, .inr (.inl (fun _ => 0)))), ((a 200), .inr (21, [.int 1, .ref (a 201), .ref (a 202), .ref (a 203), .ref (a 204), .ref (a 205), .ref (a 206), .int 0, .int 0, .int 0, .int 0, .ref (a 208), .ref (a 209), .ref (a 210), .ref (a 211), .ref (a 212), .int 4, .int 12, .int (-1), .int 0, .ref (g 200), .ref (a 213), .int 0, .int 97, .ref (a 214), .ref (a 215), .ref (a 207), .null, .int 0]))] := hD
          refine lv_istore (lv' := [(7, .int 0), (6, .int 1), (0, .ref b), (1, .ref (a 0)), (2, .ref (a 200)), (3, .ref o1), (4, .ref o2), (5, .int 0)]) hx hb dL_law_3285 hl (by decide) rfl (fun ls hl => ?_)
          refine lv_aload_n hx hb dL_law_3287 rfl (lv_at hl 4 rfl) ?_
          have hPc : va_P D vwCl [((a 200), .inr (21, [.int 1, .ref (a 201), .ref (a 202), .ref (a 203), .ref (a 204), .ref (a 205), .ref (a 206), .int 0, .int 0, .int 0, .int 0, .ref (a 208), .ref (a 209), .ref (a 210), .ref (a 211), .ref (a 212), .int 4, .int 12, .int (-1), .int 0, .ref (g 200), .ref (a 213), .int 0, .int 97, .ref (a 214), .ref (a 215), .ref (a 207), .null, .int 0]))] _ := hP.sub (ws' := [((a 200), .inr (21, [.int 1, .ref (a 201), .ref (a 202), .ref (a 203), .ref (a 204), .ref (a 205), .ref (a 206), .int 0, .int 0, .int 0, .int 0, .ref (a 208), .ref (a 209), .ref (a 210), .ref (a 211), .ref (a 212), .int 4, .int 12, .int (-1), .int 0, .ref (g 200), .ref (a 213), .int 0, .int 97, .ref (a 214), .ref (a 215), .ref (a 207), .null, .int 0]))]) [1] rfl
          have hDc : va_D (fun q => z0 ≤ q) [((a 200), .inr (21, [.int 1, .ref (a 201), .ref (a 202), .ref (a 203), .ref (a 204), .ref (a 205), .ref (a 206), .int 0, .int 0, .int 0, .int 0, .ref (a 208), .ref (a 209), .ref (a 210), .ref (a 211), .ref (a 212), .int 4, .int 12, .int (-1), .int 0, .ref (g 200), .ref (a 213), .int 0, .int 97, .ref (a 214), .ref (a 215), .ref (a 207), .null, .int 0]))] := (hD.to hAz).pick (ws' := [((a 200), .inr (21, [.int 1, .ref (a 201), .ref (a 202), .ref (a 203), .ref (a 204), .ref (a 205), .ref (a 206), .int 0, .int 0, .int 0, .int 0, .ref (a 208), .ref (a 209), .ref (a 210), .ref (a 211), .ref (a 212), .int 4, .int 12, .int (-1), .int 0, .ref (g 200), .ref (a 213), .int 0, .int 97, .ref (a 214), .ref (a 215), .ref (a 207), .null, .int 0]))]) [1] (by decide) rfl
          have hFc := va_free (wc := [((a 200), .inr (21, [.int 1, .ref (a 201), .ref (a 202), .ref (a 203), .ref (a 204), .ref (a 205), .ref (a 206), .int 0, .int 0, .int 0, .int 0, .ref (a 208), .ref (a 209), .ref (a 210), .ref (a 211), .ref (a 212), .int 4, .int 12, .int (-1), .int 0, .ref (g 200), .ref (a 213), .int 0, .int 97, .ref (a 214), .ref (a 215), .ref (a 207), .null, .int 0]))]) hD hS hA [1] rfl
          refine va_calli (va_runV (As := []) (rest := []) ⟨hx, hb, hml, hown, ht⟩ (k_X15_thrown_v2 l D g z0 _ a) (cwV 0 ht (gV w_772 w_774 w_775 w_334 w_773) rfl rfl rfl (by decide +kernel) (le2 rfl rfl)) ⟨PP.blind, va_recv hK.1 hP (ci := 21) (q0 := 1) rfl rfl, PP.mk' hK hZ hz hAz hS hPc hDc⟩ rfl rfl hl.1 rfl (lv_room (Nat.le_of_ble_eq_true rfl)) dL_law_3288 (le2 rfl rfl)) hS (fun q _ h => hFc q h) hFc (fun r u t H locs ht1 hvm hw hB hz1 hk1 hS => ?_)
          obtain ⟨rfl, hw⟩ := hw
          obtain ⟨hP1, hD1⟩ := hB
          rw [ht1] at hP1
          obtain ⟨hP, hD⟩ := va_join (wr := [(o1, .inl (g 1, 1, .inr (.inl (fun _ => 0))))]) (w1 := [((a 200), .inr (21, [.int 1, .ref (a 201), .ref (a 202), .ref (a 203), .ref (a 204), .ref (a 205), .ref (a 206), .int 0, .int 0, .int 0, .int 0, .ref (a 208), .ref (a 209), .ref (a 210), .ref (a 211), .ref (a 212), .int 4, .int 12, .int (-1), .int 0, .ref (g 200), .ref (a 213), .int 0, .int 97, .ref (a 214), .ref (a 215), .ref (a 207), .null, .int 0]))]) hP hD [1] [0] rfl rfl (by decide) (by decide) hk1 hFc hP1 hD1
          have hP : va_P D vwCl [(o1, .inl (g 1, 1, .inr (.inl (fun _ => 0)))), ((a 200), .inr (21, [.int 1, .ref (a 201), .ref (a 202), .ref (a 203), .ref (a 204), .ref (a 205), .ref (a 206), .int 0, .int 0, .int 0, .int 0, .ref (a 208), .ref (a 209), .ref (a 210), .ref (a 211), .ref (a 212), .int 4, .int 12, .int (-1), .int 0, .ref (g 200), .ref (a 213), .int 0, .int 97, .ref (a 214), .ref (a 215), .ref (a 207), .null, .int 0]))] H := hP
          have hD : va_D (va_A [] s.heap.size) [(o1, .inl (g 1, 1, .inr (.inl (fun _ => 0)))), ((a 200), .inr (21, [.int 1, .ref (a 201), .ref (a 202), .ref (a 203), .ref (a 204), .ref (a 205), .ref (a 206), .int 0, .int 0, .int 0, .int 0, .ref (a 208), .ref (a 209), .ref (a 210), .ref (a 211), .ref (a 212), .int 4, .int 12, .int (-1), .int 0, .ref (g 200), .ref (a 213), .int 0, .int 97, .ref (a 214), .ref (a 215), .ref (a 207), .null, .int 0]))] := hD
          refine lv_iload hx hb dL_law_3291 (lv_at hl 1 rfl) ?_
          refine lv_icmp_eq (tgt := 3298) hx hb dL_law_3293 (by decide) (fun c_1187 => ?_) (fun c_1187 => ?_)
          · refine lv_iload hx hb dL_law_3298 (lv_at hl 1 rfl) ?_
            refine lv_if_ne (tgt := 3322) hx hb dL_law_3300 (by decide) (fun c_1188 => ?_) (fun c_1188 => ?_)
            · refine lv_goto (tgt := 4264) hx hb dL_law_3322 (by decide) ?_
              refine W.widen (k := 200 + 300) (n := 8000 + 2000) (Nat.le_of_ble_eq_true rfl) (Nat.le_of_ble_eq_true rfl) ?_
              exact kk _ _ _ hS (lv_sub hl [7, 2] rfl)
            · exact absurd c_1188 (by decide)
          · exact absurd c_1187 (by decide)
        · obtain ⟨c_1189, c_1190, c_1191, c_1192, c_1193⟩ := hw
          exact absurd c_1189 c_1003
        · obtain ⟨c_1194, c_1195, c_1196, c_1197, c_1198, c_1199⟩ := hw
          exact absurd c_1194 c_1003
        · obtain ⟨c_1200, c_1201, c_1202, c_1203, c_1204, c_1205, c_1206⟩ := hw
          exact absurd c_1200 c_1003
        · obtain ⟨c_1207, c_1208, c_1209, c_1210, c_1211, c_1212, c_1213, c_1214⟩ := hw
          exact absurd c_1207 c_1003
      · obtain ⟨rfl, rfl, hw⟩ := hw
        rcases hw with hw | hw | hw | hw | hw
        · obtain ⟨c_1215, c_1216, c_1217, c_1218, c_1219, c_1220, c_1221, c_1222⟩ := hw
          exact absurd (c_1004.symm.trans c_1215) (by decide)
        · obtain ⟨c_1223, c_1224, c_1225, c_1226, c_1227, c_1228, c_1229, c_1230, c_1231, c_1232⟩ := hw
          exact absurd (c_1004.symm.trans c_1223) (by decide)
        · obtain ⟨c_1233, c_1234, c_1235, c_1236, c_1237, c_1238, c_1239, c_1240, c_1241, c_1242, c_1243⟩ := hw
          exact absurd (c_1004.symm.trans c_1233) (by decide)
        · obtain ⟨c_1244, c_1245, c_1246, c_1247, c_1248, c_1249, c_1250, c_1251⟩ := hw
          exact (two_out (lo_nlt c_1250) (up_nlt c_1251) c_1010 c_1011).elim
        · obtain ⟨c_1252, c_1253, c_1254, c_1255, c_1256, c_1257, c_1258, c_1259⟩ := hw
          exact absurd c_1252 c_1003
    · obtain ⟨c_1260, c_1261, c_1262, c_1263⟩ := hw
      obtain ⟨hP1, hD1⟩ := hB
      rw [ht1] at hP1
      obtain ⟨hP, hD⟩ := va_join (wr := [((a 200), f_m a g)]) (w1 := [(o1, .inl (g 1, 1, .inr (.inl (fun _ => 0))))]) hP hD [3, 0, 1] [2] rfl rfl (by decide) (by decide) hk1 hFc hP1 hD1
      have hP : va_P D vwCl [((a 200), f_m a g), (o1, .inl (g 1, 1, .inr (.inl (fun _ => 0))))] H := hP
      have hD : va_D (va_A [] s.heap.size) [((a 200), f_m a g), (o1, .inl (g 1, 1, .inr (.inl (fun _ => 0))))] := hD
      refine lv_istore (lv' := [(6, .int 1), (0, .ref b), (1, .ref (a 0)), (2, .ref (a 200)), (3, .ref o1), (4, .ref o2), (5, .int 0)]) hx hb dL_law_3248 hl (by decide) rfl (fun ls hl => ?_)
      refine lv_aload_n hx hb dL_law_3250 rfl (lv_at hl 3 rfl) ?_
      refine lv_aload_n hx hb dL_law_3251 rfl (lv_at hl 1 rfl) ?_
      refine lv_iload hx hb dL_law_3252 (lv_at hl 6 rfl) ?_
      refine lv_iconst (v := 1) hx hb dL_law_3254 (by decide) ?_
      refine lv_iadd hx hb dL_law_3255 ?_
      refine r_topi (v := 1) (by decide) ?_
      refine va_sld hx hb hX hbl hbA hS (by unfold vp_in; decide) dL_law_3256 ?_
      refine r_topi (v := xs 1) (congrArg xs (by decide)) ?_
      refine lv_i2c (v := ((xs 1).toUInt32 % 65536).toInt32) hx hb dL_law_3257 rfl ?_
      refine lv_aload_n hx hb dL_law_3258 rfl (lv_at hl 1 rfl) ?_
      refine lv_iload hx hb dL_law_3259 (lv_at hl 6 rfl) ?_
      refine lv_iconst (v := 2) hx hb dL_law_3261 (by decide) ?_
      refine lv_iadd hx hb dL_law_3262 ?_
      refine r_topi (v := 2) (by decide) ?_
      refine va_sld hx hb hX hbl hbA hS (by unfold vp_in; decide) dL_law_3263 ?_
      refine r_topi (v := xs 2) (congrArg xs (by decide)) ?_
      refine lv_aload_n hx hb dL_law_3264 rfl (lv_at hl 1 rfl) ?_
      refine lv_iload hx hb dL_law_3265 (lv_at hl 6 rfl) ?_
      refine lv_iconst (v := 3) hx hb dL_law_3267 (by decide) ?_
      refine lv_iadd hx hb dL_law_3268 ?_
      refine r_topi (v := 3) (by decide) ?_
      refine va_sld hx hb hX hbl hbA hS (by unfold vp_in; decide) dL_law_3269 ?_
      refine r_topi (v := xs 3) (congrArg xs (by decide)) ?_
      refine lv_aload_n hx hb dL_law_3270 rfl (lv_at hl 1 rfl) ?_
      refine lv_iload hx hb dL_law_3271 (lv_at hl 6 rfl) ?_
      refine lv_iconst (v := 4) hx hb dL_law_3273 (by decide) ?_
      refine lv_iadd hx hb dL_law_3274 ?_
      refine r_topi (v := 4) (by decide) ?_
      refine va_sld hx hb hX hbl hbA hS (by unfold vp_in; decide) dL_law_3275 ?_
      refine r_topi (v := xs 4) (congrArg xs (by decide)) ?_
      refine lv_aload_n hx hb dL_law_3276 rfl (lv_at hl 1 rfl) ?_
      refine lv_iload hx hb dL_law_3277 (lv_at hl 6 rfl) ?_
      refine lv_iconst (v := 5) hx hb dL_law_3279 (by decide) ?_
      refine lv_iadd hx hb dL_law_3280 ?_
      refine r_topi (v := 5) (by decide) ?_
      refine va_sld hx hb hX hbl hbA hS (by unfold vp_in; decide) dL_law_3281 ?_
      refine r_topi (v := xs 5) (congrArg xs (by decide)) ?_
      have hPc : va_P D vwCl [((a 200), f_m a g)] _ := hP.sub (ws' := [((a 200), f_m a g)]) [0] rfl
      have hDc : va_D (fun q => z0 ≤ q) [((a 200), f_m a g)] := (hD.to hAz).pick (ws' := [((a 200), f_m a g)]) [0] (by decide) rfl
      have hFc := va_free (wc := [((a 200), f_m a g)]) hD hS hA [0] rfl
      refine va_calli (va_runV (As := [.int (((xs 1).toUInt32 % 65536).toInt32), .int (xs 2), .int (xs 3), .int (xs 4), .int (xs 5)]) (rest := []) ⟨hx, hb, hml, hown, ht⟩ (k_X15_marchFinds l D g z0 _ a (((xs 1).toUInt32 % 65536).toInt32) (xs 2) (xs 3) (xs 4) (xs 5) (isC_i2c _)) (cwV 5 ht (gV w_1231 w_1233 w_1234 w_334 w_1232) rfl rfl rfl (by decide +kernel) (le2 rfl rfl)) ⟨PP.blind, va_recv hK.1 hP (ci := 21) (q0 := 0) rfl rfl, PP.mk' hK hZ hz hAz hS hPc hDc⟩ rfl rfl hl.1 rfl (lv_room (Nat.le_of_ble_eq_true rfl)) dL_law_3282 (le2 rfl rfl)) hS (fun q _ h => hFc q h) hFc (fun r u t H locs ht1 hvm hw hB hz1 hk1 hS => ?_)
      rcases hw with hw | hw
      · obtain ⟨rfl, rfl, hw⟩ := hw
        rcases hw with hw | hw | hw | hw | hw | hw | hw | hw | hw | hw | hw | hw | hw | hw | hw | hw | hw | hw | hw | hw | hw | hw | hw | hw | hw | hw | hw | hw | hw | hw | hw | hw
        · obtain ⟨c_1264, c_1265, c_1266, c_1267, c_1268⟩ := hw
          exact absurd c_1261 c_1265
        · obtain ⟨c_1269, c_1270, c_1271, c_1272, c_1273⟩ := hw
          exact absurd c_1261 c_1270
        · obtain ⟨c_1274, c_1275, c_1276, c_1277, c_1278⟩ := hw
          exact absurd c_1261 c_1275
        · obtain ⟨c_1279, c_1280, c_1281, c_1282⟩ := hw
          exact absurd (c_1261.symm.trans c_1279) (by decide)
        · obtain ⟨c_1283, c_1284, c_1285, c_1286, c_1287⟩ := hw
          exact absurd (c_1261.symm.trans c_1283) (by decide)
        · obtain ⟨c_1288, c_1289, c_1290, c_1291, c_1292, c_1293⟩ := hw
          exact absurd (c_1261.symm.trans c_1288) (by decide)
        · obtain ⟨c_1294, c_1295, c_1296, c_1297, c_1298, c_1299, c_1300⟩ := hw
          exact absurd (c_1261.symm.trans c_1294) (by decide)
        · obtain ⟨c_1301, c_1302, c_1303, c_1304, c_1305, c_1306, c_1307, c_1308⟩ := hw
          exact absurd (c_1261.symm.trans c_1301) (by decide)
        · obtain ⟨c_1309, c_1310, c_1311⟩ := hw
          exact absurd (c_1261.symm.trans c_1309) (by decide)
        · obtain ⟨c_1312, c_1313, c_1314, c_1315⟩ := hw
          exact absurd (c_1261.symm.trans c_1312) (by decide)
        · obtain ⟨c_1316, c_1317, c_1318, c_1319, c_1320⟩ := hw
          exact absurd (c_1261.symm.trans c_1316) (by decide)
        · obtain ⟨c_1321, c_1322, c_1323, c_1324, c_1325, c_1326⟩ := hw
          exact absurd (c_1261.symm.trans c_1321) (by decide)
        · obtain ⟨c_1327, c_1328, c_1329, c_1330, c_1331, c_1332, c_1333⟩ := hw
          exact absurd (c_1261.symm.trans c_1327) (by decide)
        · obtain ⟨c_1334, c_1335, c_1336, c_1337, c_1338, c_1339, c_1340, c_1341, c_1342⟩ := hw
          exact absurd (c_1261.symm.trans c_1334) (by decide)
        · obtain ⟨c_1343, c_1344, c_1345, c_1346, c_1347, c_1348, c_1349, c_1350, c_1351, c_1352⟩ := hw
          exact absurd (c_1261.symm.trans c_1343) (by decide)
        · obtain ⟨c_1353, c_1354⟩ := hw
          exact absurd (c_1261.symm.trans c_1353) (by decide)
        · obtain ⟨c_1355, c_1356, c_1357⟩ := hw
          exact absurd (c_1261.symm.trans c_1355) (by decide)
        · obtain ⟨c_1358, c_1359, c_1360, c_1361⟩ := hw
          exact absurd (c_1261.symm.trans c_1358) (by decide)
        · obtain ⟨c_1362, c_1363, c_1364, c_1365, c_1366⟩ := hw
          exact absurd (c_1261.symm.trans c_1362) (by decide)
        · obtain ⟨c_1367, c_1368, c_1369, c_1370, c_1371, c_1372⟩ := hw
          exact absurd (c_1261.symm.trans c_1367) (by decide)
        · obtain ⟨c_1373, c_1374, c_1375, c_1376, c_1377, c_1378, c_1379, c_1380⟩ := hw
          exact absurd (c_1261.symm.trans c_1373) (by decide)
        · obtain ⟨c_1381, c_1382, c_1383, c_1384, c_1385, c_1386, c_1387, c_1388, c_1389⟩ := hw
          exact absurd (c_1261.symm.trans c_1381) (by decide)
        · obtain ⟨c_1390, c_1391, c_1392, c_1393, c_1394, c_1395, c_1396, c_1397, c_1398, c_1399⟩ := hw
          exact absurd (c_1261.symm.trans c_1390) (by decide)
        · obtain ⟨c_1400, c_1401, c_1402, c_1403, c_1404, c_1405, c_1406, c_1407, c_1408, c_1409, c_1410⟩ := hw
          exact absurd (c_1261.symm.trans c_1400) (by decide)
        · obtain ⟨c_1411, c_1412, c_1413, c_1414, c_1415⟩ := hw
          exact absurd c_1415 c_1262
        · obtain ⟨c_1416, c_1417, c_1418, c_1419, c_1420, c_1421⟩ := hw
          obtain ⟨hP1, hD1⟩ := hB
          rw [ht1] at hP1
          obtain ⟨hP, hD⟩ := va_join (wr := [(o1, .inl (g 1, 1, .inr (.inl (fun _ => 0))))]) (w1 := [((a 200), .inr (21, [.int 1, .ref (a 201), .ref (a 202), .ref (a 203), .ref (a 204), .ref (a 205), .ref (a 206), .int 0, .int 0, .int 0, .int 0, .ref (a 208), .ref (a 209), .ref (a 210), .ref (a 211), .ref (a 212), .int 4, .int 12, .int (-1), .int 0, .ref (g 200), .ref (a 213), .int 0, .int 97, .ref (a 214), .ref (a 215), .ref (a 207), .null, .int 0]))]) hP hD [0] [1] rfl rfl (by decide) (by decide) hk1 hFc hP1 hD1
          have hP : va_P D vwCl [(o1, .inl (g 1, 1, .inr (.inl (fun _ => 0)))), ((a 200), .inr (21, [.int 1, .ref (a 201), .ref (a 202), .ref (a 203), .ref (a 204), .ref (a 205), .ref (a 206), .int 0, .int 0, .int 0, .int 0, .ref (a 208), .ref (a 209), .ref (a 210), .ref (a 211), .ref (a 212), .int 4, .int 12, .int (-1), .int 0, .ref (g 200), .ref (a 213), .int 0, .int 97, .ref (a 214), .ref (a 215), .ref (a 207), .null, .int 0]))] H := hP
          have hD : va_D (va_A [] s.heap.size) [(o1, .inl (g 1, 1, .inr (.inl (fun _ => 0)))), ((a 200), .inr (21, [.int 1, .ref (a 201), .ref (a 202), .ref (a 203), .ref (a 204), .ref (a 205), .ref (a 206), .int 0, .int 0, .int 0, .int 0, .ref (a 208), .ref (a 209), .ref (a 210), .ref (a 211), .ref (a 212), .int 4, .int 12, .int (-1), .int 0, .ref (g 200), .ref (a 213), .int 0, .int 97, .ref (a 214), .ref (a 215), .ref (a 207), .null, .int 0]))] := hD
          refine lv_istore (lv' := [(7, .int 0), (6, .int 1), (0, .ref b), (1, .ref (a 0)), (2, .ref (a 200)), (3, .ref o1), (4, .ref o2), (5, .int 0)]) hx hb dL_law_3285 hl (by decide) rfl (fun ls hl => ?_)
          refine lv_aload_n hx hb dL_law_3287 rfl (lv_at hl 4 rfl) ?_
          have hPc : va_P D vwCl [((a 200), .inr (21, [.int 1, .ref (a 201), .ref (a 202), .ref (a 203), .ref (a 204), .ref (a 205), .ref (a 206), .int 0, .int 0, .int 0, .int 0, .ref (a 208), .ref (a 209), .ref (a 210), .ref (a 211), .ref (a 212), .int 4, .int 12, .int (-1), .int 0, .ref (g 200), .ref (a 213), .int 0, .int 97, .ref (a 214), .ref (a 215), .ref (a 207), .null, .int 0]))] _ := hP.sub (ws' := [((a 200), .inr (21, [.int 1, .ref (a 201), .ref (a 202), .ref (a 203), .ref (a 204), .ref (a 205), .ref (a 206), .int 0, .int 0, .int 0, .int 0, .ref (a 208), .ref (a 209), .ref (a 210), .ref (a 211), .ref (a 212), .int 4, .int 12, .int (-1), .int 0, .ref (g 200), .ref (a 213), .int 0, .int 97, .ref (a 214), .ref (a 215), .ref (a 207), .null, .int 0]))]) [1] rfl
          have hDc : va_D (fun q => z0 ≤ q) [((a 200), .inr (21, [.int 1, .ref (a 201), .ref (a 202), .ref (a 203), .ref (a 204), .ref (a 205), .ref (a 206), .int 0, .int 0, .int 0, .int 0, .ref (a 208), .ref (a 209), .ref (a 210), .ref (a 211), .ref (a 212), .int 4, .int 12, .int (-1), .int 0, .ref (g 200), .ref (a 213), .int 0, .int 97, .ref (a 214), .ref (a 215), .ref (a 207), .null, .int 0]))] := (hD.to hAz).pick (ws' := [((a 200), .inr (21, [.int 1, .ref (a 201), .ref (a 202), .ref (a 203), .ref (a 204), .ref (a 205), .ref (a 206), .int 0, .int 0, .int 0, .int 0, .ref (a 208), .ref (a 209), .ref (a 210), .ref (a 211), .ref (a 212), .int 4, .int 12, .int (-1), .int 0, .ref (g 200), .ref (a 213), .int 0, .int 97, .ref (a 214), .ref (a 215), .ref (a 207), .null, .int 0]))]) [1] (by decide) rfl
          have hFc := va_free (wc := [((a 200), .inr (21, [.int 1, .ref (a 201), .ref (a 202), .ref (a 203), .ref (a 204), .ref (a 205), .ref (a 206), .int 0, .int 0, .int 0, .int 0, .ref (a 208), .ref (a 209), .ref (a 210), .ref (a 211), .ref (a 212), .int 4, .int 12, .int (-1), .int 0, .ref (g 200), .ref (a 213), .int 0, .int 97, .ref (a 214), .ref (a 215), .ref (a 207), .null, .int 0]))]) hD hS hA [1] rfl
          refine va_calli (va_runV (As := []) (rest := []) ⟨hx, hb, hml, hown, ht⟩ (k_X15_thrown_v2 l D g z0 _ a) (cwV 0 ht (gV w_772 w_774 w_775 w_334 w_773) rfl rfl rfl (by decide +kernel) (le2 rfl rfl)) ⟨PP.blind, va_recv hK.1 hP (ci := 21) (q0 := 1) rfl rfl, PP.mk' hK hZ hz hAz hS hPc hDc⟩ rfl rfl hl.1 rfl (lv_room (Nat.le_of_ble_eq_true rfl)) dL_law_3288 (le2 rfl rfl)) hS (fun q _ h => hFc q h) hFc (fun r u t H locs ht1 hvm hw hB hz1 hk1 hS => ?_)
          obtain ⟨rfl, hw⟩ := hw
          obtain ⟨hP1, hD1⟩ := hB
          rw [ht1] at hP1
          obtain ⟨hP, hD⟩ := va_join (wr := [(o1, .inl (g 1, 1, .inr (.inl (fun _ => 0))))]) (w1 := [((a 200), .inr (21, [.int 1, .ref (a 201), .ref (a 202), .ref (a 203), .ref (a 204), .ref (a 205), .ref (a 206), .int 0, .int 0, .int 0, .int 0, .ref (a 208), .ref (a 209), .ref (a 210), .ref (a 211), .ref (a 212), .int 4, .int 12, .int (-1), .int 0, .ref (g 200), .ref (a 213), .int 0, .int 97, .ref (a 214), .ref (a 215), .ref (a 207), .null, .int 0]))]) hP hD [1] [0] rfl rfl (by decide) (by decide) hk1 hFc hP1 hD1
          have hP : va_P D vwCl [(o1, .inl (g 1, 1, .inr (.inl (fun _ => 0)))), ((a 200), .inr (21, [.int 1, .ref (a 201), .ref (a 202), .ref (a 203), .ref (a 204), .ref (a 205), .ref (a 206), .int 0, .int 0, .int 0, .int 0, .ref (a 208), .ref (a 209), .ref (a 210), .ref (a 211), .ref (a 212), .int 4, .int 12, .int (-1), .int 0, .ref (g 200), .ref (a 213), .int 0, .int 97, .ref (a 214), .ref (a 215), .ref (a 207), .null, .int 0]))] H := hP
          have hD : va_D (va_A [] s.heap.size) [(o1, .inl (g 1, 1, .inr (.inl (fun _ => 0)))), ((a 200), .inr (21, [.int 1, .ref (a 201), .ref (a 202), .ref (a 203), .ref (a 204), .ref (a 205), .ref (a 206), .int 0, .int 0, .int 0, .int 0, .ref (a 208), .ref (a 209), .ref (a 210), .ref (a 211), .ref (a 212), .int 4, .int 12, .int (-1), .int 0, .ref (g 200), .ref (a 213), .int 0, .int 97, .ref (a 214), .ref (a 215), .ref (a 207), .null, .int 0]))] := hD
          refine lv_iload hx hb dL_law_3291 (lv_at hl 1 rfl) ?_
          refine lv_icmp_eq (tgt := 3298) hx hb dL_law_3293 (by decide) (fun c_1422 => ?_) (fun c_1422 => ?_)
          · refine lv_iload hx hb dL_law_3298 (lv_at hl 1 rfl) ?_
            refine lv_if_ne (tgt := 3322) hx hb dL_law_3300 (by decide) (fun c_1423 => ?_) (fun c_1423 => ?_)
            · refine lv_goto (tgt := 4264) hx hb dL_law_3322 (by decide) ?_
              refine W.widen (k := 200 + 300) (n := 8000 + 2000) (Nat.le_of_ble_eq_true rfl) (Nat.le_of_ble_eq_true rfl) ?_
              exact kk _ _ _ hS (lv_sub hl [7, 2] rfl)
            · exact absurd c_1423 (by decide)
          · exact absurd c_1422 (by decide)
        · obtain ⟨c_1424, c_1425, c_1426, c_1427, c_1428, c_1429, c_1430⟩ := hw
          exact absurd (Int.le_trans (lo_nlt c_1263) (up_nlt c_1429)) (by decide)
        · obtain ⟨c_1431, c_1432, c_1433, c_1434, c_1435, c_1436, c_1437, c_1438⟩ := hw
          exact absurd (Int.le_trans (lo_nlt c_1263) (up_nlt c_1436)) (by decide)
        · obtain ⟨c_1439, c_1440, c_1441, c_1442, c_1443⟩ := hw
          exact absurd c_1439 c_1260
        · obtain ⟨c_1444, c_1445, c_1446, c_1447, c_1448, c_1449⟩ := hw
          exact absurd c_1444 c_1260
        · obtain ⟨c_1450, c_1451, c_1452, c_1453, c_1454, c_1455, c_1456⟩ := hw
          exact absurd c_1450 c_1260
        · obtain ⟨c_1457, c_1458, c_1459, c_1460, c_1461, c_1462, c_1463, c_1464⟩ := hw
          exact absurd c_1457 c_1260
      · obtain ⟨rfl, rfl, hw⟩ := hw
        rcases hw with hw | hw | hw | hw | hw
        · obtain ⟨c_1465, c_1466, c_1467, c_1468, c_1469, c_1470, c_1471, c_1472⟩ := hw
          exact absurd (c_1261.symm.trans c_1465) (by decide)
        · obtain ⟨c_1473, c_1474, c_1475, c_1476, c_1477, c_1478, c_1479, c_1480, c_1481, c_1482⟩ := hw
          exact absurd (c_1261.symm.trans c_1473) (by decide)
        · obtain ⟨c_1483, c_1484, c_1485, c_1486, c_1487, c_1488, c_1489, c_1490, c_1491, c_1492, c_1493⟩ := hw
          exact absurd (c_1261.symm.trans c_1483) (by decide)
        · obtain ⟨c_1494, c_1495, c_1496, c_1497, c_1498, c_1499, c_1500, c_1501⟩ := hw
          exact absurd (Int.le_trans (lo_nlt c_1263) (up_nlt c_1499)) (by decide)
        · obtain ⟨c_1502, c_1503, c_1504, c_1505, c_1506, c_1507, c_1508, c_1509⟩ := hw
          exact absurd c_1502 c_1260
    · obtain ⟨c_1510, c_1511, c_1512, c_1513⟩ := hw
      obtain ⟨hP1, hD1⟩ := hB
      rw [ht1] at hP1
      obtain ⟨hP, hD⟩ := va_join (wr := [((a 200), f_m a g)]) (w1 := [(o1, .inl (g 1, 1, .inr (.inl (fun _ => 0))))]) hP hD [3, 0, 1] [2] rfl rfl (by decide) (by decide) hk1 hFc hP1 hD1
      have hP : va_P D vwCl [((a 200), f_m a g), (o1, .inl (g 1, 1, .inr (.inl (fun _ => 0))))] H := hP
      have hD : va_D (va_A [] s.heap.size) [((a 200), f_m a g), (o1, .inl (g 1, 1, .inr (.inl (fun _ => 0))))] := hD
      refine lv_istore (lv' := [(6, .int 1), (0, .ref b), (1, .ref (a 0)), (2, .ref (a 200)), (3, .ref o1), (4, .ref o2), (5, .int 0)]) hx hb dL_law_3248 hl (by decide) rfl (fun ls hl => ?_)
      refine lv_aload_n hx hb dL_law_3250 rfl (lv_at hl 3 rfl) ?_
      refine lv_aload_n hx hb dL_law_3251 rfl (lv_at hl 1 rfl) ?_
      refine lv_iload hx hb dL_law_3252 (lv_at hl 6 rfl) ?_
      refine lv_iconst (v := 1) hx hb dL_law_3254 (by decide) ?_
      refine lv_iadd hx hb dL_law_3255 ?_
      refine r_topi (v := 1) (by decide) ?_
      refine va_sld hx hb hX hbl hbA hS (by unfold vp_in; decide) dL_law_3256 ?_
      refine r_topi (v := xs 1) (congrArg xs (by decide)) ?_
      refine lv_i2c (v := ((xs 1).toUInt32 % 65536).toInt32) hx hb dL_law_3257 rfl ?_
      refine lv_aload_n hx hb dL_law_3258 rfl (lv_at hl 1 rfl) ?_
      refine lv_iload hx hb dL_law_3259 (lv_at hl 6 rfl) ?_
      refine lv_iconst (v := 2) hx hb dL_law_3261 (by decide) ?_
      refine lv_iadd hx hb dL_law_3262 ?_
      refine r_topi (v := 2) (by decide) ?_
      refine va_sld hx hb hX hbl hbA hS (by unfold vp_in; decide) dL_law_3263 ?_
      refine r_topi (v := xs 2) (congrArg xs (by decide)) ?_
      refine lv_aload_n hx hb dL_law_3264 rfl (lv_at hl 1 rfl) ?_
      refine lv_iload hx hb dL_law_3265 (lv_at hl 6 rfl) ?_
      refine lv_iconst (v := 3) hx hb dL_law_3267 (by decide) ?_
      refine lv_iadd hx hb dL_law_3268 ?_
      refine r_topi (v := 3) (by decide) ?_
      refine va_sld hx hb hX hbl hbA hS (by unfold vp_in; decide) dL_law_3269 ?_
      refine r_topi (v := xs 3) (congrArg xs (by decide)) ?_
      refine lv_aload_n hx hb dL_law_3270 rfl (lv_at hl 1 rfl) ?_
      refine lv_iload hx hb dL_law_3271 (lv_at hl 6 rfl) ?_
      refine lv_iconst (v := 4) hx hb dL_law_3273 (by decide) ?_
      refine lv_iadd hx hb dL_law_3274 ?_
      refine r_topi (v := 4) (by decide) ?_
      refine va_sld hx hb hX hbl hbA hS (by unfold vp_in; decide) dL_law_3275 ?_
      refine r_topi (v := xs 4) (congrArg xs (by decide)) ?_
      refine lv_aload_n hx hb dL_law_3276 rfl (lv_at hl 1 rfl) ?_
      refine lv_iload hx hb dL_law_3277 (lv_at hl 6 rfl) ?_
      refine lv_iconst (v := 5) hx hb dL_law_3279 (by decide) ?_
      refine lv_iadd hx hb dL_law_3280 ?_
      refine r_topi (v := 5) (by decide) ?_
      refine va_sld hx hb hX hbl hbA hS (by unfold vp_in; decide) dL_law_3281 ?_
      refine r_topi (v := xs 5) (congrArg xs (by decide)) ?_
      have hPc : va_P D vwCl [((a 200), f_m a g)] _ := hP.sub (ws' := [((a 200), f_m a g)]) [0] rfl
      have hDc : va_D (fun q => z0 ≤ q) [((a 200), f_m a g)] := (hD.to hAz).pick (ws' := [((a 200), f_m a g)]) [0] (by decide) rfl
      have hFc := va_free (wc := [((a 200), f_m a g)]) hD hS hA [0] rfl
      refine va_calli (va_runV (As := [.int (((xs 1).toUInt32 % 65536).toInt32), .int (xs 2), .int (xs 3), .int (xs 4), .int (xs 5)]) (rest := []) ⟨hx, hb, hml, hown, ht⟩ (k_X15_marchFinds l D g z0 _ a (((xs 1).toUInt32 % 65536).toInt32) (xs 2) (xs 3) (xs 4) (xs 5) (isC_i2c _)) (cwV 5 ht (gV w_1231 w_1233 w_1234 w_334 w_1232) rfl rfl rfl (by decide +kernel) (le2 rfl rfl)) ⟨PP.blind, va_recv hK.1 hP (ci := 21) (q0 := 0) rfl rfl, PP.mk' hK hZ hz hAz hS hPc hDc⟩ rfl rfl hl.1 rfl (lv_room (Nat.le_of_ble_eq_true rfl)) dL_law_3282 (le2 rfl rfl)) hS (fun q _ h => hFc q h) hFc (fun r u t H locs ht1 hvm hw hB hz1 hk1 hS => ?_)
      rcases hw with hw | hw
      · obtain ⟨rfl, rfl, hw⟩ := hw
        rcases hw with hw | hw | hw | hw | hw | hw | hw | hw | hw | hw | hw | hw | hw | hw | hw | hw | hw | hw | hw | hw | hw | hw | hw | hw | hw | hw | hw | hw | hw | hw | hw | hw
        · obtain ⟨c_1514, c_1515, c_1516, c_1517, c_1518⟩ := hw
          exact absurd c_1512 c_1516
        · obtain ⟨c_1519, c_1520, c_1521, c_1522, c_1523⟩ := hw
          exact absurd c_1512 c_1521
        · obtain ⟨c_1524, c_1525, c_1526, c_1527, c_1528⟩ := hw
          exact absurd c_1512 c_1526
        · obtain ⟨c_1529, c_1530, c_1531, c_1532⟩ := hw
          exact absurd (c_1512.symm.trans c_1529) (by decide)
        · obtain ⟨c_1533, c_1534, c_1535, c_1536, c_1537⟩ := hw
          exact absurd (c_1512.symm.trans c_1533) (by decide)
        · obtain ⟨c_1538, c_1539, c_1540, c_1541, c_1542, c_1543⟩ := hw
          exact absurd (c_1512.symm.trans c_1538) (by decide)
        · obtain ⟨c_1544, c_1545, c_1546, c_1547, c_1548, c_1549, c_1550⟩ := hw
          exact absurd (c_1512.symm.trans c_1544) (by decide)
        · obtain ⟨c_1551, c_1552, c_1553, c_1554, c_1555, c_1556, c_1557, c_1558⟩ := hw
          exact absurd (c_1512.symm.trans c_1551) (by decide)
        · obtain ⟨c_1559, c_1560, c_1561⟩ := hw
          exact absurd (c_1512.symm.trans c_1559) (by decide)
        · obtain ⟨c_1562, c_1563, c_1564, c_1565⟩ := hw
          exact absurd (c_1512.symm.trans c_1562) (by decide)
        · obtain ⟨c_1566, c_1567, c_1568, c_1569, c_1570⟩ := hw
          exact absurd (c_1512.symm.trans c_1566) (by decide)
        · obtain ⟨c_1571, c_1572, c_1573, c_1574, c_1575, c_1576⟩ := hw
          exact absurd (c_1512.symm.trans c_1571) (by decide)
        · obtain ⟨c_1577, c_1578, c_1579, c_1580, c_1581, c_1582, c_1583⟩ := hw
          exact absurd (c_1512.symm.trans c_1577) (by decide)
        · obtain ⟨c_1584, c_1585, c_1586, c_1587, c_1588, c_1589, c_1590, c_1591, c_1592⟩ := hw
          exact absurd (c_1512.symm.trans c_1584) (by decide)
        · obtain ⟨c_1593, c_1594, c_1595, c_1596, c_1597, c_1598, c_1599, c_1600, c_1601, c_1602⟩ := hw
          exact absurd (c_1512.symm.trans c_1593) (by decide)
        · obtain ⟨c_1603, c_1604⟩ := hw
          obtain ⟨hP1, hD1⟩ := hB
          rw [ht1] at hP1
          obtain ⟨hP, hD⟩ := va_join (wr := [(o1, .inl (g 1, 1, .inr (.inl (fun _ => 0))))]) (w1 := [((a 200), .inr (21, [.int 1, .ref (a 201), .ref (a 202), .ref (a 203), .ref (a 204), .ref (a 205), .ref (a 206), .int 0, .int 0, .int 0, .int 0, .ref (a 208), .ref (a 209), .ref (a 210), .ref (a 211), .ref (a 212), .int 4, .int 12, .int (-1), .int 0, .ref (g 200), .ref (a 213), .int 0, .int 97, .ref (a 214), .ref (a 215), .ref (a 207), .null, .int 0]))]) hP hD [0] [1] rfl rfl (by decide) (by decide) hk1 hFc hP1 hD1
          have hP : va_P D vwCl [(o1, .inl (g 1, 1, .inr (.inl (fun _ => 0)))), ((a 200), .inr (21, [.int 1, .ref (a 201), .ref (a 202), .ref (a 203), .ref (a 204), .ref (a 205), .ref (a 206), .int 0, .int 0, .int 0, .int 0, .ref (a 208), .ref (a 209), .ref (a 210), .ref (a 211), .ref (a 212), .int 4, .int 12, .int (-1), .int 0, .ref (g 200), .ref (a 213), .int 0, .int 97, .ref (a 214), .ref (a 215), .ref (a 207), .null, .int 0]))] H := hP
          have hD : va_D (va_A [] s.heap.size) [(o1, .inl (g 1, 1, .inr (.inl (fun _ => 0)))), ((a 200), .inr (21, [.int 1, .ref (a 201), .ref (a 202), .ref (a 203), .ref (a 204), .ref (a 205), .ref (a 206), .int 0, .int 0, .int 0, .int 0, .ref (a 208), .ref (a 209), .ref (a 210), .ref (a 211), .ref (a 212), .int 4, .int 12, .int (-1), .int 0, .ref (g 200), .ref (a 213), .int 0, .int 97, .ref (a 214), .ref (a 215), .ref (a 207), .null, .int 0]))] := hD
          refine lv_istore (lv' := [(7, .int 0), (6, .int 1), (0, .ref b), (1, .ref (a 0)), (2, .ref (a 200)), (3, .ref o1), (4, .ref o2), (5, .int 0)]) hx hb dL_law_3285 hl (by decide) rfl (fun ls hl => ?_)
          refine lv_aload_n hx hb dL_law_3287 rfl (lv_at hl 4 rfl) ?_
          have hPc : va_P D vwCl [((a 200), .inr (21, [.int 1, .ref (a 201), .ref (a 202), .ref (a 203), .ref (a 204), .ref (a 205), .ref (a 206), .int 0, .int 0, .int 0, .int 0, .ref (a 208), .ref (a 209), .ref (a 210), .ref (a 211), .ref (a 212), .int 4, .int 12, .int (-1), .int 0, .ref (g 200), .ref (a 213), .int 0, .int 97, .ref (a 214), .ref (a 215), .ref (a 207), .null, .int 0]))] _ := hP.sub (ws' := [((a 200), .inr (21, [.int 1, .ref (a 201), .ref (a 202), .ref (a 203), .ref (a 204), .ref (a 205), .ref (a 206), .int 0, .int 0, .int 0, .int 0, .ref (a 208), .ref (a 209), .ref (a 210), .ref (a 211), .ref (a 212), .int 4, .int 12, .int (-1), .int 0, .ref (g 200), .ref (a 213), .int 0, .int 97, .ref (a 214), .ref (a 215), .ref (a 207), .null, .int 0]))]) [1] rfl
          have hDc : va_D (fun q => z0 ≤ q) [((a 200), .inr (21, [.int 1, .ref (a 201), .ref (a 202), .ref (a 203), .ref (a 204), .ref (a 205), .ref (a 206), .int 0, .int 0, .int 0, .int 0, .ref (a 208), .ref (a 209), .ref (a 210), .ref (a 211), .ref (a 212), .int 4, .int 12, .int (-1), .int 0, .ref (g 200), .ref (a 213), .int 0, .int 97, .ref (a 214), .ref (a 215), .ref (a 207), .null, .int 0]))] := (hD.to hAz).pick (ws' := [((a 200), .inr (21, [.int 1, .ref (a 201), .ref (a 202), .ref (a 203), .ref (a 204), .ref (a 205), .ref (a 206), .int 0, .int 0, .int 0, .int 0, .ref (a 208), .ref (a 209), .ref (a 210), .ref (a 211), .ref (a 212), .int 4, .int 12, .int (-1), .int 0, .ref (g 200), .ref (a 213), .int 0, .int 97, .ref (a 214), .ref (a 215), .ref (a 207), .null, .int 0]))]) [1] (by decide) rfl
          have hFc := va_free (wc := [((a 200), .inr (21, [.int 1, .ref (a 201), .ref (a 202), .ref (a 203), .ref (a 204), .ref (a 205), .ref (a 206), .int 0, .int 0, .int 0, .int 0, .ref (a 208), .ref (a 209), .ref (a 210), .ref (a 211), .ref (a 212), .int 4, .int 12, .int (-1), .int 0, .ref (g 200), .ref (a 213), .int 0, .int 97, .ref (a 214), .ref (a 215), .ref (a 207), .null, .int 0]))]) hD hS hA [1] rfl
          refine va_calli (va_runV (As := []) (rest := []) ⟨hx, hb, hml, hown, ht⟩ (k_X15_thrown_v2 l D g z0 _ a) (cwV 0 ht (gV w_772 w_774 w_775 w_334 w_773) rfl rfl rfl (by decide +kernel) (le2 rfl rfl)) ⟨PP.blind, va_recv hK.1 hP (ci := 21) (q0 := 1) rfl rfl, PP.mk' hK hZ hz hAz hS hPc hDc⟩ rfl rfl hl.1 rfl (lv_room (Nat.le_of_ble_eq_true rfl)) dL_law_3288 (le2 rfl rfl)) hS (fun q _ h => hFc q h) hFc (fun r u t H locs ht1 hvm hw hB hz1 hk1 hS => ?_)
          obtain ⟨rfl, hw⟩ := hw
          obtain ⟨hP1, hD1⟩ := hB
          rw [ht1] at hP1
          obtain ⟨hP, hD⟩ := va_join (wr := [(o1, .inl (g 1, 1, .inr (.inl (fun _ => 0))))]) (w1 := [((a 200), .inr (21, [.int 1, .ref (a 201), .ref (a 202), .ref (a 203), .ref (a 204), .ref (a 205), .ref (a 206), .int 0, .int 0, .int 0, .int 0, .ref (a 208), .ref (a 209), .ref (a 210), .ref (a 211), .ref (a 212), .int 4, .int 12, .int (-1), .int 0, .ref (g 200), .ref (a 213), .int 0, .int 97, .ref (a 214), .ref (a 215), .ref (a 207), .null, .int 0]))]) hP hD [1] [0] rfl rfl (by decide) (by decide) hk1 hFc hP1 hD1
          have hP : va_P D vwCl [(o1, .inl (g 1, 1, .inr (.inl (fun _ => 0)))), ((a 200), .inr (21, [.int 1, .ref (a 201), .ref (a 202), .ref (a 203), .ref (a 204), .ref (a 205), .ref (a 206), .int 0, .int 0, .int 0, .int 0, .ref (a 208), .ref (a 209), .ref (a 210), .ref (a 211), .ref (a 212), .int 4, .int 12, .int (-1), .int 0, .ref (g 200), .ref (a 213), .int 0, .int 97, .ref (a 214), .ref (a 215), .ref (a 207), .null, .int 0]))] H := hP
          have hD : va_D (va_A [] s.heap.size) [(o1, .inl (g 1, 1, .inr (.inl (fun _ => 0)))), ((a 200), .inr (21, [.int 1, .ref (a 201), .ref (a 202), .ref (a 203), .ref (a 204), .ref (a 205), .ref (a 206), .int 0, .int 0, .int 0, .int 0, .ref (a 208), .ref (a 209), .ref (a 210), .ref (a 211), .ref (a 212), .int 4, .int 12, .int (-1), .int 0, .ref (g 200), .ref (a 213), .int 0, .int 97, .ref (a 214), .ref (a 215), .ref (a 207), .null, .int 0]))] := hD
          refine lv_iload hx hb dL_law_3291 (lv_at hl 1 rfl) ?_
          refine lv_icmp_eq (tgt := 3298) hx hb dL_law_3293 (by decide) (fun c_1605 => ?_) (fun c_1605 => ?_)
          · refine lv_iload hx hb dL_law_3298 (lv_at hl 1 rfl) ?_
            refine lv_if_ne (tgt := 3322) hx hb dL_law_3300 (by decide) (fun c_1606 => ?_) (fun c_1606 => ?_)
            · refine lv_goto (tgt := 4264) hx hb dL_law_3322 (by decide) ?_
              refine W.widen (k := 200 + 300) (n := 8000 + 2000) (Nat.le_of_ble_eq_true rfl) (Nat.le_of_ble_eq_true rfl) ?_
              exact kk _ _ _ hS (lv_sub hl [7, 2] rfl)
            · exact absurd c_1606 (by decide)
          · exact absurd c_1605 (by decide)
        · obtain ⟨c_1607, c_1608, c_1609⟩ := hw
          exact absurd c_1513 c_1608
        · obtain ⟨c_1610, c_1611, c_1612, c_1613⟩ := hw
          exact absurd c_1513 c_1611
        · obtain ⟨c_1614, c_1615, c_1616, c_1617, c_1618⟩ := hw
          exact absurd c_1513 c_1615
        · obtain ⟨c_1619, c_1620, c_1621, c_1622, c_1623, c_1624⟩ := hw
          exact absurd c_1513 c_1620
        · obtain ⟨c_1625, c_1626, c_1627, c_1628, c_1629, c_1630, c_1631, c_1632⟩ := hw
          exact absurd c_1513 c_1626
        · obtain ⟨c_1633, c_1634, c_1635, c_1636, c_1637, c_1638, c_1639, c_1640, c_1641⟩ := hw
          exact absurd c_1513 c_1634
        · obtain ⟨c_1642, c_1643, c_1644, c_1645, c_1646, c_1647, c_1648, c_1649, c_1650, c_1651⟩ := hw
          exact absurd c_1513 c_1643
        · obtain ⟨c_1652, c_1653, c_1654, c_1655, c_1656, c_1657, c_1658, c_1659, c_1660, c_1661, c_1662⟩ := hw
          exact absurd c_1513 c_1653
        · obtain ⟨c_1663, c_1664, c_1665, c_1666, c_1667⟩ := hw
          exact absurd c_1663 c_1511
        · obtain ⟨c_1668, c_1669, c_1670, c_1671, c_1672, c_1673⟩ := hw
          exact absurd c_1668 c_1511
        · obtain ⟨c_1674, c_1675, c_1676, c_1677, c_1678, c_1679, c_1680⟩ := hw
          exact absurd c_1674 c_1511
        · obtain ⟨c_1681, c_1682, c_1683, c_1684, c_1685, c_1686, c_1687, c_1688⟩ := hw
          exact absurd c_1681 c_1511
        · obtain ⟨c_1689, c_1690, c_1691, c_1692, c_1693⟩ := hw
          exact absurd c_1689 c_1510
        · obtain ⟨c_1694, c_1695, c_1696, c_1697, c_1698, c_1699⟩ := hw
          exact absurd c_1694 c_1510
        · obtain ⟨c_1700, c_1701, c_1702, c_1703, c_1704, c_1705, c_1706⟩ := hw
          exact absurd c_1700 c_1510
        · obtain ⟨c_1707, c_1708, c_1709, c_1710, c_1711, c_1712, c_1713, c_1714⟩ := hw
          exact absurd c_1707 c_1510
      · obtain ⟨rfl, rfl, hw⟩ := hw
        rcases hw with hw | hw | hw | hw | hw
        · obtain ⟨c_1715, c_1716, c_1717, c_1718, c_1719, c_1720, c_1721, c_1722⟩ := hw
          exact absurd (c_1512.symm.trans c_1715) (by decide)
        · obtain ⟨c_1723, c_1724, c_1725, c_1726, c_1727, c_1728, c_1729, c_1730, c_1731, c_1732⟩ := hw
          exact absurd (c_1512.symm.trans c_1723) (by decide)
        · obtain ⟨c_1733, c_1734, c_1735, c_1736, c_1737, c_1738, c_1739, c_1740, c_1741, c_1742, c_1743⟩ := hw
          exact absurd c_1513 c_1734
        · obtain ⟨c_1744, c_1745, c_1746, c_1747, c_1748, c_1749, c_1750, c_1751⟩ := hw
          exact absurd c_1744 c_1511
        · obtain ⟨c_1752, c_1753, c_1754, c_1755, c_1756, c_1757, c_1758, c_1759⟩ := hw
          exact absurd c_1752 c_1510
    · obtain ⟨c_1760, c_1761, c_1762, c_1763, c_1764, c_1765⟩ := hw
      obtain ⟨hP1, hD1⟩ := hB
      rw [ht1] at hP1
      obtain ⟨hP, hD⟩ := va_join (wr := [((a 200), f_m a g)]) (w1 := [(o1, .inl (g 1, 1, .inr (.inl (fun _ => 0))))]) hP hD [3, 0, 1] [2] rfl rfl (by decide) (by decide) hk1 hFc hP1 hD1
      have hP : va_P D vwCl [((a 200), f_m a g), (o1, .inl (g 1, 1, .inr (.inl (fun _ => 0))))] H := hP
      have hD : va_D (va_A [] s.heap.size) [((a 200), f_m a g), (o1, .inl (g 1, 1, .inr (.inl (fun _ => 0))))] := hD
      refine lv_istore (lv' := [(6, .int 1), (0, .ref b), (1, .ref (a 0)), (2, .ref (a 200)), (3, .ref o1), (4, .ref o2), (5, .int 0)]) hx hb dL_law_3248 hl (by decide) rfl (fun ls hl => ?_)
      refine lv_aload_n hx hb dL_law_3250 rfl (lv_at hl 3 rfl) ?_
      refine lv_aload_n hx hb dL_law_3251 rfl (lv_at hl 1 rfl) ?_
      refine lv_iload hx hb dL_law_3252 (lv_at hl 6 rfl) ?_
      refine lv_iconst (v := 1) hx hb dL_law_3254 (by decide) ?_
      refine lv_iadd hx hb dL_law_3255 ?_
      refine r_topi (v := 1) (by decide) ?_
      refine va_sld hx hb hX hbl hbA hS (by unfold vp_in; decide) dL_law_3256 ?_
      refine r_topi (v := xs 1) (congrArg xs (by decide)) ?_
      refine lv_i2c (v := ((xs 1).toUInt32 % 65536).toInt32) hx hb dL_law_3257 rfl ?_
      refine lv_aload_n hx hb dL_law_3258 rfl (lv_at hl 1 rfl) ?_
      refine lv_iload hx hb dL_law_3259 (lv_at hl 6 rfl) ?_
      refine lv_iconst (v := 2) hx hb dL_law_3261 (by decide) ?_
      refine lv_iadd hx hb dL_law_3262 ?_
      refine r_topi (v := 2) (by decide) ?_
      refine va_sld hx hb hX hbl hbA hS (by unfold vp_in; decide) dL_law_3263 ?_
      refine r_topi (v := xs 2) (congrArg xs (by decide)) ?_
      refine lv_aload_n hx hb dL_law_3264 rfl (lv_at hl 1 rfl) ?_
      refine lv_iload hx hb dL_law_3265 (lv_at hl 6 rfl) ?_
      refine lv_iconst (v := 3) hx hb dL_law_3267 (by decide) ?_
      refine lv_iadd hx hb dL_law_3268 ?_
      refine r_topi (v := 3) (by decide) ?_
      refine va_sld hx hb hX hbl hbA hS (by unfold vp_in; decide) dL_law_3269 ?_
      refine r_topi (v := xs 3) (congrArg xs (by decide)) ?_
      refine lv_aload_n hx hb dL_law_3270 rfl (lv_at hl 1 rfl) ?_
      refine lv_iload hx hb dL_law_3271 (lv_at hl 6 rfl) ?_
      refine lv_iconst (v := 4) hx hb dL_law_3273 (by decide) ?_
      refine lv_iadd hx hb dL_law_3274 ?_
      refine r_topi (v := 4) (by decide) ?_
      refine va_sld hx hb hX hbl hbA hS (by unfold vp_in; decide) dL_law_3275 ?_
      refine r_topi (v := xs 4) (congrArg xs (by decide)) ?_
      refine lv_aload_n hx hb dL_law_3276 rfl (lv_at hl 1 rfl) ?_
      refine lv_iload hx hb dL_law_3277 (lv_at hl 6 rfl) ?_
      refine lv_iconst (v := 5) hx hb dL_law_3279 (by decide) ?_
      refine lv_iadd hx hb dL_law_3280 ?_
      refine r_topi (v := 5) (by decide) ?_
      refine va_sld hx hb hX hbl hbA hS (by unfold vp_in; decide) dL_law_3281 ?_
      refine r_topi (v := xs 5) (congrArg xs (by decide)) ?_
      have hPc : va_P D vwCl [((a 200), f_m a g)] _ := hP.sub (ws' := [((a 200), f_m a g)]) [0] rfl
      have hDc : va_D (fun q => z0 ≤ q) [((a 200), f_m a g)] := (hD.to hAz).pick (ws' := [((a 200), f_m a g)]) [0] (by decide) rfl
      have hFc := va_free (wc := [((a 200), f_m a g)]) hD hS hA [0] rfl
      refine va_calli (va_runV (As := [.int (((xs 1).toUInt32 % 65536).toInt32), .int (xs 2), .int (xs 3), .int (xs 4), .int (xs 5)]) (rest := []) ⟨hx, hb, hml, hown, ht⟩ (k_X15_marchFinds l D g z0 _ a (((xs 1).toUInt32 % 65536).toInt32) (xs 2) (xs 3) (xs 4) (xs 5) (isC_i2c _)) (cwV 5 ht (gV w_1231 w_1233 w_1234 w_334 w_1232) rfl rfl rfl (by decide +kernel) (le2 rfl rfl)) ⟨PP.blind, va_recv hK.1 hP (ci := 21) (q0 := 0) rfl rfl, PP.mk' hK hZ hz hAz hS hPc hDc⟩ rfl rfl hl.1 rfl (lv_room (Nat.le_of_ble_eq_true rfl)) dL_law_3282 (le2 rfl rfl)) hS (fun q _ h => hFc q h) hFc (fun r u t H locs ht1 hvm hw hB hz1 hk1 hS => ?_)
      rcases hw with hw | hw
      · obtain ⟨rfl, rfl, hw⟩ := hw
        rcases hw with hw | hw | hw | hw | hw | hw | hw | hw | hw | hw | hw | hw | hw | hw | hw | hw | hw | hw | hw | hw | hw | hw | hw | hw | hw | hw | hw | hw | hw | hw | hw | hw
        · obtain ⟨c_1766, c_1767, c_1768, c_1769, c_1770⟩ := hw
          exact absurd c_1762 c_1768
        · obtain ⟨c_1771, c_1772, c_1773, c_1774, c_1775⟩ := hw
          exact absurd c_1762 c_1773
        · obtain ⟨c_1776, c_1777, c_1778, c_1779, c_1780⟩ := hw
          exact absurd c_1762 c_1778
        · obtain ⟨c_1781, c_1782, c_1783, c_1784⟩ := hw
          exact absurd (c_1762.symm.trans c_1781) (by decide)
        · obtain ⟨c_1785, c_1786, c_1787, c_1788, c_1789⟩ := hw
          exact absurd (c_1762.symm.trans c_1785) (by decide)
        · obtain ⟨c_1790, c_1791, c_1792, c_1793, c_1794, c_1795⟩ := hw
          exact absurd (c_1762.symm.trans c_1790) (by decide)
        · obtain ⟨c_1796, c_1797, c_1798, c_1799, c_1800, c_1801, c_1802⟩ := hw
          exact absurd (c_1762.symm.trans c_1796) (by decide)
        · obtain ⟨c_1803, c_1804, c_1805, c_1806, c_1807, c_1808, c_1809, c_1810⟩ := hw
          exact absurd (c_1762.symm.trans c_1803) (by decide)
        · obtain ⟨c_1811, c_1812, c_1813⟩ := hw
          exact absurd (c_1762.symm.trans c_1811) (by decide)
        · obtain ⟨c_1814, c_1815, c_1816, c_1817⟩ := hw
          exact absurd (c_1762.symm.trans c_1814) (by decide)
        · obtain ⟨c_1818, c_1819, c_1820, c_1821, c_1822⟩ := hw
          exact absurd (c_1762.symm.trans c_1818) (by decide)
        · obtain ⟨c_1823, c_1824, c_1825, c_1826, c_1827, c_1828⟩ := hw
          exact absurd (c_1762.symm.trans c_1823) (by decide)
        · obtain ⟨c_1829, c_1830, c_1831, c_1832, c_1833, c_1834, c_1835⟩ := hw
          exact absurd (c_1762.symm.trans c_1829) (by decide)
        · obtain ⟨c_1836, c_1837, c_1838, c_1839, c_1840, c_1841, c_1842, c_1843, c_1844⟩ := hw
          exact absurd (c_1762.symm.trans c_1836) (by decide)
        · obtain ⟨c_1845, c_1846, c_1847, c_1848, c_1849, c_1850, c_1851, c_1852, c_1853, c_1854⟩ := hw
          exact absurd (c_1762.symm.trans c_1845) (by decide)
        · obtain ⟨c_1855, c_1856⟩ := hw
          exact absurd c_1856 c_1763
        · obtain ⟨c_1857, c_1858, c_1859⟩ := hw
          exact absurd (Int.le_trans (lo_lt c_1859) (up_lt c_1764)) (by decide)
        · obtain ⟨c_1860, c_1861, c_1862, c_1863⟩ := hw
          obtain ⟨hP1, hD1⟩ := hB
          rw [ht1] at hP1
          obtain ⟨hP, hD⟩ := va_join (wr := [(o1, .inl (g 1, 1, .inr (.inl (fun _ => 0))))]) (w1 := [((a 200), .inr (21, [.int 1, .ref (a 201), .ref (a 202), .ref (a 203), .ref (a 204), .ref (a 205), .ref (a 206), .int 0, .int 0, .int 0, .int 0, .ref (a 208), .ref (a 209), .ref (a 210), .ref (a 211), .ref (a 212), .int 4, .int 12, .int (-1), .int 0, .ref (g 200), .ref (a 213), .int 0, .int 97, .ref (a 214), .ref (a 215), .ref (a 207), .null, .int 0]))]) hP hD [0] [1] rfl rfl (by decide) (by decide) hk1 hFc hP1 hD1
          have hP : va_P D vwCl [(o1, .inl (g 1, 1, .inr (.inl (fun _ => 0)))), ((a 200), .inr (21, [.int 1, .ref (a 201), .ref (a 202), .ref (a 203), .ref (a 204), .ref (a 205), .ref (a 206), .int 0, .int 0, .int 0, .int 0, .ref (a 208), .ref (a 209), .ref (a 210), .ref (a 211), .ref (a 212), .int 4, .int 12, .int (-1), .int 0, .ref (g 200), .ref (a 213), .int 0, .int 97, .ref (a 214), .ref (a 215), .ref (a 207), .null, .int 0]))] H := hP
          have hD : va_D (va_A [] s.heap.size) [(o1, .inl (g 1, 1, .inr (.inl (fun _ => 0)))), ((a 200), .inr (21, [.int 1, .ref (a 201), .ref (a 202), .ref (a 203), .ref (a 204), .ref (a 205), .ref (a 206), .int 0, .int 0, .int 0, .int 0, .ref (a 208), .ref (a 209), .ref (a 210), .ref (a 211), .ref (a 212), .int 4, .int 12, .int (-1), .int 0, .ref (g 200), .ref (a 213), .int 0, .int 97, .ref (a 214), .ref (a 215), .ref (a 207), .null, .int 0]))] := hD
          refine lv_istore (lv' := [(7, .int 0), (6, .int 1), (0, .ref b), (1, .ref (a 0)), (2, .ref (a 200)), (3, .ref o1), (4, .ref o2), (5, .int 0)]) hx hb dL_law_3285 hl (by decide) rfl (fun ls hl => ?_)
          refine lv_aload_n hx hb dL_law_3287 rfl (lv_at hl 4 rfl) ?_
          have hPc : va_P D vwCl [((a 200), .inr (21, [.int 1, .ref (a 201), .ref (a 202), .ref (a 203), .ref (a 204), .ref (a 205), .ref (a 206), .int 0, .int 0, .int 0, .int 0, .ref (a 208), .ref (a 209), .ref (a 210), .ref (a 211), .ref (a 212), .int 4, .int 12, .int (-1), .int 0, .ref (g 200), .ref (a 213), .int 0, .int 97, .ref (a 214), .ref (a 215), .ref (a 207), .null, .int 0]))] _ := hP.sub (ws' := [((a 200), .inr (21, [.int 1, .ref (a 201), .ref (a 202), .ref (a 203), .ref (a 204), .ref (a 205), .ref (a 206), .int 0, .int 0, .int 0, .int 0, .ref (a 208), .ref (a 209), .ref (a 210), .ref (a 211), .ref (a 212), .int 4, .int 12, .int (-1), .int 0, .ref (g 200), .ref (a 213), .int 0, .int 97, .ref (a 214), .ref (a 215), .ref (a 207), .null, .int 0]))]) [1] rfl
          have hDc : va_D (fun q => z0 ≤ q) [((a 200), .inr (21, [.int 1, .ref (a 201), .ref (a 202), .ref (a 203), .ref (a 204), .ref (a 205), .ref (a 206), .int 0, .int 0, .int 0, .int 0, .ref (a 208), .ref (a 209), .ref (a 210), .ref (a 211), .ref (a 212), .int 4, .int 12, .int (-1), .int 0, .ref (g 200), .ref (a 213), .int 0, .int 97, .ref (a 214), .ref (a 215), .ref (a 207), .null, .int 0]))] := (hD.to hAz).pick (ws' := [((a 200), .inr (21, [.int 1, .ref (a 201), .ref (a 202), .ref (a 203), .ref (a 204), .ref (a 205), .ref (a 206), .int 0, .int 0, .int 0, .int 0, .ref (a 208), .ref (a 209), .ref (a 210), .ref (a 211), .ref (a 212), .int 4, .int 12, .int (-1), .int 0, .ref (g 200), .ref (a 213), .int 0, .int 97, .ref (a 214), .ref (a 215), .ref (a 207), .null, .int 0]))]) [1] (by decide) rfl
          have hFc := va_free (wc := [((a 200), .inr (21, [.int 1, .ref (a 201), .ref (a 202), .ref (a 203), .ref (a 204), .ref (a 205), .ref (a 206), .int 0, .int 0, .int 0, .int 0, .ref (a 208), .ref (a 209), .ref (a 210), .ref (a 211), .ref (a 212), .int 4, .int 12, .int (-1), .int 0, .ref (g 200), .ref (a 213), .int 0, .int 97, .ref (a 214), .ref (a 215), .ref (a 207), .null, .int 0]))]) hD hS hA [1] rfl
          refine va_calli (va_runV (As := []) (rest := []) ⟨hx, hb, hml, hown, ht⟩ (k_X15_thrown_v2 l D g z0 _ a) (cwV 0 ht (gV w_772 w_774 w_775 w_334 w_773) rfl rfl rfl (by decide +kernel) (le2 rfl rfl)) ⟨PP.blind, va_recv hK.1 hP (ci := 21) (q0 := 1) rfl rfl, PP.mk' hK hZ hz hAz hS hPc hDc⟩ rfl rfl hl.1 rfl (lv_room (Nat.le_of_ble_eq_true rfl)) dL_law_3288 (le2 rfl rfl)) hS (fun q _ h => hFc q h) hFc (fun r u t H locs ht1 hvm hw hB hz1 hk1 hS => ?_)
          obtain ⟨rfl, hw⟩ := hw
          obtain ⟨hP1, hD1⟩ := hB
          rw [ht1] at hP1
          obtain ⟨hP, hD⟩ := va_join (wr := [(o1, .inl (g 1, 1, .inr (.inl (fun _ => 0))))]) (w1 := [((a 200), .inr (21, [.int 1, .ref (a 201), .ref (a 202), .ref (a 203), .ref (a 204), .ref (a 205), .ref (a 206), .int 0, .int 0, .int 0, .int 0, .ref (a 208), .ref (a 209), .ref (a 210), .ref (a 211), .ref (a 212), .int 4, .int 12, .int (-1), .int 0, .ref (g 200), .ref (a 213), .int 0, .int 97, .ref (a 214), .ref (a 215), .ref (a 207), .null, .int 0]))]) hP hD [1] [0] rfl rfl (by decide) (by decide) hk1 hFc hP1 hD1
          have hP : va_P D vwCl [(o1, .inl (g 1, 1, .inr (.inl (fun _ => 0)))), ((a 200), .inr (21, [.int 1, .ref (a 201), .ref (a 202), .ref (a 203), .ref (a 204), .ref (a 205), .ref (a 206), .int 0, .int 0, .int 0, .int 0, .ref (a 208), .ref (a 209), .ref (a 210), .ref (a 211), .ref (a 212), .int 4, .int 12, .int (-1), .int 0, .ref (g 200), .ref (a 213), .int 0, .int 97, .ref (a 214), .ref (a 215), .ref (a 207), .null, .int 0]))] H := hP
          have hD : va_D (va_A [] s.heap.size) [(o1, .inl (g 1, 1, .inr (.inl (fun _ => 0)))), ((a 200), .inr (21, [.int 1, .ref (a 201), .ref (a 202), .ref (a 203), .ref (a 204), .ref (a 205), .ref (a 206), .int 0, .int 0, .int 0, .int 0, .ref (a 208), .ref (a 209), .ref (a 210), .ref (a 211), .ref (a 212), .int 4, .int 12, .int (-1), .int 0, .ref (g 200), .ref (a 213), .int 0, .int 97, .ref (a 214), .ref (a 215), .ref (a 207), .null, .int 0]))] := hD
          refine lv_iload hx hb dL_law_3291 (lv_at hl 1 rfl) ?_
          refine lv_icmp_eq (tgt := 3298) hx hb dL_law_3293 (by decide) (fun c_1864 => ?_) (fun c_1864 => ?_)
          · refine lv_iload hx hb dL_law_3298 (lv_at hl 1 rfl) ?_
            refine lv_if_ne (tgt := 3322) hx hb dL_law_3300 (by decide) (fun c_1865 => ?_) (fun c_1865 => ?_)
            · refine lv_goto (tgt := 4264) hx hb dL_law_3322 (by decide) ?_
              refine W.widen (k := 200 + 300) (n := 8000 + 2000) (Nat.le_of_ble_eq_true rfl) (Nat.le_of_ble_eq_true rfl) ?_
              exact kk _ _ _ hS (lv_sub hl [7, 2] rfl)
            · exact absurd c_1865 (by decide)
          · exact absurd c_1864 (by decide)
        · obtain ⟨c_1866, c_1867, c_1868, c_1869, c_1870⟩ := hw
          exact absurd c_1765 c_1869
        · obtain ⟨c_1871, c_1872, c_1873, c_1874, c_1875, c_1876⟩ := hw
          exact absurd c_1765 c_1874
        · obtain ⟨c_1877, c_1878, c_1879, c_1880, c_1881, c_1882, c_1883, c_1884⟩ := hw
          exact absurd c_1765 c_1880
        · obtain ⟨c_1885, c_1886, c_1887, c_1888, c_1889, c_1890, c_1891, c_1892, c_1893⟩ := hw
          exact absurd c_1765 c_1888
        · obtain ⟨c_1894, c_1895, c_1896, c_1897, c_1898, c_1899, c_1900, c_1901, c_1902, c_1903⟩ := hw
          exact absurd c_1765 c_1897
        · obtain ⟨c_1904, c_1905, c_1906, c_1907, c_1908, c_1909, c_1910, c_1911, c_1912, c_1913, c_1914⟩ := hw
          exact absurd c_1765 c_1907
        · obtain ⟨c_1915, c_1916, c_1917, c_1918, c_1919⟩ := hw
          exact absurd c_1915 c_1761
        · obtain ⟨c_1920, c_1921, c_1922, c_1923, c_1924, c_1925⟩ := hw
          exact absurd c_1920 c_1761
        · obtain ⟨c_1926, c_1927, c_1928, c_1929, c_1930, c_1931, c_1932⟩ := hw
          exact absurd c_1926 c_1761
        · obtain ⟨c_1933, c_1934, c_1935, c_1936, c_1937, c_1938, c_1939, c_1940⟩ := hw
          exact absurd c_1933 c_1761
        · obtain ⟨c_1941, c_1942, c_1943, c_1944, c_1945⟩ := hw
          exact absurd c_1941 c_1760
        · obtain ⟨c_1946, c_1947, c_1948, c_1949, c_1950, c_1951⟩ := hw
          exact absurd c_1946 c_1760
        · obtain ⟨c_1952, c_1953, c_1954, c_1955, c_1956, c_1957, c_1958⟩ := hw
          exact absurd c_1952 c_1760
        · obtain ⟨c_1959, c_1960, c_1961, c_1962, c_1963, c_1964, c_1965, c_1966⟩ := hw
          exact absurd c_1959 c_1760
      · obtain ⟨rfl, rfl, hw⟩ := hw
        rcases hw with hw | hw | hw | hw | hw
        · obtain ⟨c_1967, c_1968, c_1969, c_1970, c_1971, c_1972, c_1973, c_1974⟩ := hw
          exact absurd (c_1762.symm.trans c_1967) (by decide)
        · obtain ⟨c_1975, c_1976, c_1977, c_1978, c_1979, c_1980, c_1981, c_1982, c_1983, c_1984⟩ := hw
          exact absurd (c_1762.symm.trans c_1975) (by decide)
        · obtain ⟨c_1985, c_1986, c_1987, c_1988, c_1989, c_1990, c_1991, c_1992, c_1993, c_1994, c_1995⟩ := hw
          exact absurd c_1765 c_1988
        · obtain ⟨c_1996, c_1997, c_1998, c_1999, c_2000, c_2001, c_2002, c_2003⟩ := hw
          exact absurd c_1996 c_1761
        · obtain ⟨c_2004, c_2005, c_2006, c_2007, c_2008, c_2009, c_2010, c_2011⟩ := hw
          exact absurd c_2004 c_1760
    · obtain ⟨c_2012, c_2013, c_2014, c_2015, c_2016, c_2017, c_2018⟩ := hw
      obtain ⟨hP1, hD1⟩ := hB
      rw [ht1] at hP1
      obtain ⟨hP, hD⟩ := va_join (wr := [((a 200), f_m a g)]) (w1 := [(o1, .inl (g 1, 1, .inr (.inl (fun _ => 0))))]) hP hD [3, 0, 1] [2] rfl rfl (by decide) (by decide) hk1 hFc hP1 hD1
      have hP : va_P D vwCl [((a 200), f_m a g), (o1, .inl (g 1, 1, .inr (.inl (fun _ => 0))))] H := hP
      have hD : va_D (va_A [] s.heap.size) [((a 200), f_m a g), (o1, .inl (g 1, 1, .inr (.inl (fun _ => 0))))] := hD
      refine lv_istore (lv' := [(6, .int 1), (0, .ref b), (1, .ref (a 0)), (2, .ref (a 200)), (3, .ref o1), (4, .ref o2), (5, .int 0)]) hx hb dL_law_3248 hl (by decide) rfl (fun ls hl => ?_)
      refine lv_aload_n hx hb dL_law_3250 rfl (lv_at hl 3 rfl) ?_
      refine lv_aload_n hx hb dL_law_3251 rfl (lv_at hl 1 rfl) ?_
      refine lv_iload hx hb dL_law_3252 (lv_at hl 6 rfl) ?_
      refine lv_iconst (v := 1) hx hb dL_law_3254 (by decide) ?_
      refine lv_iadd hx hb dL_law_3255 ?_
      refine r_topi (v := 1) (by decide) ?_
      refine va_sld hx hb hX hbl hbA hS (by unfold vp_in; decide) dL_law_3256 ?_
      refine r_topi (v := xs 1) (congrArg xs (by decide)) ?_
      refine lv_i2c (v := ((xs 1).toUInt32 % 65536).toInt32) hx hb dL_law_3257 rfl ?_
      refine lv_aload_n hx hb dL_law_3258 rfl (lv_at hl 1 rfl) ?_
      refine lv_iload hx hb dL_law_3259 (lv_at hl 6 rfl) ?_
      refine lv_iconst (v := 2) hx hb dL_law_3261 (by decide) ?_
      refine lv_iadd hx hb dL_law_3262 ?_
      refine r_topi (v := 2) (by decide) ?_
      refine va_sld hx hb hX hbl hbA hS (by unfold vp_in; decide) dL_law_3263 ?_
      refine r_topi (v := xs 2) (congrArg xs (by decide)) ?_
      refine lv_aload_n hx hb dL_law_3264 rfl (lv_at hl 1 rfl) ?_
      refine lv_iload hx hb dL_law_3265 (lv_at hl 6 rfl) ?_
      refine lv_iconst (v := 3) hx hb dL_law_3267 (by decide) ?_
      refine lv_iadd hx hb dL_law_3268 ?_
      refine r_topi (v := 3) (by decide) ?_
      refine va_sld hx hb hX hbl hbA hS (by unfold vp_in; decide) dL_law_3269 ?_
      refine r_topi (v := xs 3) (congrArg xs (by decide)) ?_
      refine lv_aload_n hx hb dL_law_3270 rfl (lv_at hl 1 rfl) ?_
      refine lv_iload hx hb dL_law_3271 (lv_at hl 6 rfl) ?_
      refine lv_iconst (v := 4) hx hb dL_law_3273 (by decide) ?_
      refine lv_iadd hx hb dL_law_3274 ?_
      refine r_topi (v := 4) (by decide) ?_
      refine va_sld hx hb hX hbl hbA hS (by unfold vp_in; decide) dL_law_3275 ?_
      refine r_topi (v := xs 4) (congrArg xs (by decide)) ?_
      refine lv_aload_n hx hb dL_law_3276 rfl (lv_at hl 1 rfl) ?_
      refine lv_iload hx hb dL_law_3277 (lv_at hl 6 rfl) ?_
      refine lv_iconst (v := 5) hx hb dL_law_3279 (by decide) ?_
      refine lv_iadd hx hb dL_law_3280 ?_
      refine r_topi (v := 5) (by decide) ?_
      refine va_sld hx hb hX hbl hbA hS (by unfold vp_in; decide) dL_law_3281 ?_
      refine r_topi (v := xs 5) (congrArg xs (by decide)) ?_
      have hPc : va_P D vwCl [((a 200), f_m a g)] _ := hP.sub (ws' := [((a 200), f_m a g)]) [0] rfl
      have hDc : va_D (fun q => z0 ≤ q) [((a 200), f_m a g)] := (hD.to hAz).pick (ws' := [((a 200), f_m a g)]) [0] (by decide) rfl
      have hFc := va_free (wc := [((a 200), f_m a g)]) hD hS hA [0] rfl
      refine va_calli (va_runV (As := [.int (((xs 1).toUInt32 % 65536).toInt32), .int (xs 2), .int (xs 3), .int (xs 4), .int (xs 5)]) (rest := []) ⟨hx, hb, hml, hown, ht⟩ (k_X15_marchFinds l D g z0 _ a (((xs 1).toUInt32 % 65536).toInt32) (xs 2) (xs 3) (xs 4) (xs 5) (isC_i2c _)) (cwV 5 ht (gV w_1231 w_1233 w_1234 w_334 w_1232) rfl rfl rfl (by decide +kernel) (le2 rfl rfl)) ⟨PP.blind, va_recv hK.1 hP (ci := 21) (q0 := 0) rfl rfl, PP.mk' hK hZ hz hAz hS hPc hDc⟩ rfl rfl hl.1 rfl (lv_room (Nat.le_of_ble_eq_true rfl)) dL_law_3282 (le2 rfl rfl)) hS (fun q _ h => hFc q h) hFc (fun r u t H locs ht1 hvm hw hB hz1 hk1 hS => ?_)
      rcases hw with hw | hw
      · obtain ⟨rfl, rfl, hw⟩ := hw
        rcases hw with hw | hw | hw | hw | hw | hw | hw | hw | hw | hw | hw | hw | hw | hw | hw | hw | hw | hw | hw | hw | hw | hw | hw | hw | hw | hw | hw | hw | hw | hw | hw | hw
        · obtain ⟨c_2019, c_2020, c_2021, c_2022, c_2023⟩ := hw
          exact absurd c_2014 c_2021
        · obtain ⟨c_2024, c_2025, c_2026, c_2027, c_2028⟩ := hw
          exact absurd c_2014 c_2026
        · obtain ⟨c_2029, c_2030, c_2031, c_2032, c_2033⟩ := hw
          exact absurd c_2014 c_2031
        · obtain ⟨c_2034, c_2035, c_2036, c_2037⟩ := hw
          exact absurd (c_2014.symm.trans c_2034) (by decide)
        · obtain ⟨c_2038, c_2039, c_2040, c_2041, c_2042⟩ := hw
          exact absurd (c_2014.symm.trans c_2038) (by decide)
        · obtain ⟨c_2043, c_2044, c_2045, c_2046, c_2047, c_2048⟩ := hw
          exact absurd (c_2014.symm.trans c_2043) (by decide)
        · obtain ⟨c_2049, c_2050, c_2051, c_2052, c_2053, c_2054, c_2055⟩ := hw
          exact absurd (c_2014.symm.trans c_2049) (by decide)
        · obtain ⟨c_2056, c_2057, c_2058, c_2059, c_2060, c_2061, c_2062, c_2063⟩ := hw
          exact absurd (c_2014.symm.trans c_2056) (by decide)
        · obtain ⟨c_2064, c_2065, c_2066⟩ := hw
          exact absurd (c_2014.symm.trans c_2064) (by decide)
        · obtain ⟨c_2067, c_2068, c_2069, c_2070⟩ := hw
          exact absurd (c_2014.symm.trans c_2067) (by decide)
        · obtain ⟨c_2071, c_2072, c_2073, c_2074, c_2075⟩ := hw
          exact absurd (c_2014.symm.trans c_2071) (by decide)
        · obtain ⟨c_2076, c_2077, c_2078, c_2079, c_2080, c_2081⟩ := hw
          exact absurd (c_2014.symm.trans c_2076) (by decide)
        · obtain ⟨c_2082, c_2083, c_2084, c_2085, c_2086, c_2087, c_2088⟩ := hw
          exact absurd (c_2014.symm.trans c_2082) (by decide)
        · obtain ⟨c_2089, c_2090, c_2091, c_2092, c_2093, c_2094, c_2095, c_2096, c_2097⟩ := hw
          exact absurd (c_2014.symm.trans c_2089) (by decide)
        · obtain ⟨c_2098, c_2099, c_2100, c_2101, c_2102, c_2103, c_2104, c_2105, c_2106, c_2107⟩ := hw
          exact absurd (c_2014.symm.trans c_2098) (by decide)
        · obtain ⟨c_2108, c_2109⟩ := hw
          exact absurd c_2109 c_2015
        · obtain ⟨c_2110, c_2111, c_2112⟩ := hw
          exact absurd (Int.le_trans (lo_lt c_2112) (up_lt c_2016)) (by decide)
        · obtain ⟨c_2113, c_2114, c_2115, c_2116⟩ := hw
          exact absurd c_2116 c_2017
        · obtain ⟨c_2117, c_2118, c_2119, c_2120, c_2121⟩ := hw
          obtain ⟨hP1, hD1⟩ := hB
          rw [ht1] at hP1
          obtain ⟨hP, hD⟩ := va_join (wr := [(o1, .inl (g 1, 1, .inr (.inl (fun _ => 0))))]) (w1 := [((a 200), .inr (21, [.int 1, .ref (a 201), .ref (a 202), .ref (a 203), .ref (a 204), .ref (a 205), .ref (a 206), .int 0, .int 0, .int 0, .int 0, .ref (a 208), .ref (a 209), .ref (a 210), .ref (a 211), .ref (a 212), .int 4, .int 12, .int (-1), .int 0, .ref (g 200), .ref (a 213), .int 0, .int 97, .ref (a 214), .ref (a 215), .ref (a 207), .null, .int 0]))]) hP hD [0] [1] rfl rfl (by decide) (by decide) hk1 hFc hP1 hD1
          have hP : va_P D vwCl [(o1, .inl (g 1, 1, .inr (.inl (fun _ => 0)))), ((a 200), .inr (21, [.int 1, .ref (a 201), .ref (a 202), .ref (a 203), .ref (a 204), .ref (a 205), .ref (a 206), .int 0, .int 0, .int 0, .int 0, .ref (a 208), .ref (a 209), .ref (a 210), .ref (a 211), .ref (a 212), .int 4, .int 12, .int (-1), .int 0, .ref (g 200), .ref (a 213), .int 0, .int 97, .ref (a 214), .ref (a 215), .ref (a 207), .null, .int 0]))] H := hP
          have hD : va_D (va_A [] s.heap.size) [(o1, .inl (g 1, 1, .inr (.inl (fun _ => 0)))), ((a 200), .inr (21, [.int 1, .ref (a 201), .ref (a 202), .ref (a 203), .ref (a 204), .ref (a 205), .ref (a 206), .int 0, .int 0, .int 0, .int 0, .ref (a 208), .ref (a 209), .ref (a 210), .ref (a 211), .ref (a 212), .int 4, .int 12, .int (-1), .int 0, .ref (g 200), .ref (a 213), .int 0, .int 97, .ref (a 214), .ref (a 215), .ref (a 207), .null, .int 0]))] := hD
          refine lv_istore (lv' := [(7, .int 0), (6, .int 1), (0, .ref b), (1, .ref (a 0)), (2, .ref (a 200)), (3, .ref o1), (4, .ref o2), (5, .int 0)]) hx hb dL_law_3285 hl (by decide) rfl (fun ls hl => ?_)
          refine lv_aload_n hx hb dL_law_3287 rfl (lv_at hl 4 rfl) ?_
          have hPc : va_P D vwCl [((a 200), .inr (21, [.int 1, .ref (a 201), .ref (a 202), .ref (a 203), .ref (a 204), .ref (a 205), .ref (a 206), .int 0, .int 0, .int 0, .int 0, .ref (a 208), .ref (a 209), .ref (a 210), .ref (a 211), .ref (a 212), .int 4, .int 12, .int (-1), .int 0, .ref (g 200), .ref (a 213), .int 0, .int 97, .ref (a 214), .ref (a 215), .ref (a 207), .null, .int 0]))] _ := hP.sub (ws' := [((a 200), .inr (21, [.int 1, .ref (a 201), .ref (a 202), .ref (a 203), .ref (a 204), .ref (a 205), .ref (a 206), .int 0, .int 0, .int 0, .int 0, .ref (a 208), .ref (a 209), .ref (a 210), .ref (a 211), .ref (a 212), .int 4, .int 12, .int (-1), .int 0, .ref (g 200), .ref (a 213), .int 0, .int 97, .ref (a 214), .ref (a 215), .ref (a 207), .null, .int 0]))]) [1] rfl
          have hDc : va_D (fun q => z0 ≤ q) [((a 200), .inr (21, [.int 1, .ref (a 201), .ref (a 202), .ref (a 203), .ref (a 204), .ref (a 205), .ref (a 206), .int 0, .int 0, .int 0, .int 0, .ref (a 208), .ref (a 209), .ref (a 210), .ref (a 211), .ref (a 212), .int 4, .int 12, .int (-1), .int 0, .ref (g 200), .ref (a 213), .int 0, .int 97, .ref (a 214), .ref (a 215), .ref (a 207), .null, .int 0]))] := (hD.to hAz).pick (ws' := [((a 200), .inr (21, [.int 1, .ref (a 201), .ref (a 202), .ref (a 203), .ref (a 204), .ref (a 205), .ref (a 206), .int 0, .int 0, .int 0, .int 0, .ref (a 208), .ref (a 209), .ref (a 210), .ref (a 211), .ref (a 212), .int 4, .int 12, .int (-1), .int 0, .ref (g 200), .ref (a 213), .int 0, .int 97, .ref (a 214), .ref (a 215), .ref (a 207), .null, .int 0]))]) [1] (by decide) rfl
          have hFc := va_free (wc := [((a 200), .inr (21, [.int 1, .ref (a 201), .ref (a 202), .ref (a 203), .ref (a 204), .ref (a 205), .ref (a 206), .int 0, .int 0, .int 0, .int 0, .ref (a 208), .ref (a 209), .ref (a 210), .ref (a 211), .ref (a 212), .int 4, .int 12, .int (-1), .int 0, .ref (g 200), .ref (a 213), .int 0, .int 97, .ref (a 214), .ref (a 215), .ref (a 207), .null, .int 0]))]) hD hS hA [1] rfl
          refine va_calli (va_runV (As := []) (rest := []) ⟨hx, hb, hml, hown, ht⟩ (k_X15_thrown_v2 l D g z0 _ a) (cwV 0 ht (gV w_772 w_774 w_775 w_334 w_773) rfl rfl rfl (by decide +kernel) (le2 rfl rfl)) ⟨PP.blind, va_recv hK.1 hP (ci := 21) (q0 := 1) rfl rfl, PP.mk' hK hZ hz hAz hS hPc hDc⟩ rfl rfl hl.1 rfl (lv_room (Nat.le_of_ble_eq_true rfl)) dL_law_3288 (le2 rfl rfl)) hS (fun q _ h => hFc q h) hFc (fun r u t H locs ht1 hvm hw hB hz1 hk1 hS => ?_)
          obtain ⟨rfl, hw⟩ := hw
          obtain ⟨hP1, hD1⟩ := hB
          rw [ht1] at hP1
          obtain ⟨hP, hD⟩ := va_join (wr := [(o1, .inl (g 1, 1, .inr (.inl (fun _ => 0))))]) (w1 := [((a 200), .inr (21, [.int 1, .ref (a 201), .ref (a 202), .ref (a 203), .ref (a 204), .ref (a 205), .ref (a 206), .int 0, .int 0, .int 0, .int 0, .ref (a 208), .ref (a 209), .ref (a 210), .ref (a 211), .ref (a 212), .int 4, .int 12, .int (-1), .int 0, .ref (g 200), .ref (a 213), .int 0, .int 97, .ref (a 214), .ref (a 215), .ref (a 207), .null, .int 0]))]) hP hD [1] [0] rfl rfl (by decide) (by decide) hk1 hFc hP1 hD1
          have hP : va_P D vwCl [(o1, .inl (g 1, 1, .inr (.inl (fun _ => 0)))), ((a 200), .inr (21, [.int 1, .ref (a 201), .ref (a 202), .ref (a 203), .ref (a 204), .ref (a 205), .ref (a 206), .int 0, .int 0, .int 0, .int 0, .ref (a 208), .ref (a 209), .ref (a 210), .ref (a 211), .ref (a 212), .int 4, .int 12, .int (-1), .int 0, .ref (g 200), .ref (a 213), .int 0, .int 97, .ref (a 214), .ref (a 215), .ref (a 207), .null, .int 0]))] H := hP
          have hD : va_D (va_A [] s.heap.size) [(o1, .inl (g 1, 1, .inr (.inl (fun _ => 0)))), ((a 200), .inr (21, [.int 1, .ref (a 201), .ref (a 202), .ref (a 203), .ref (a 204), .ref (a 205), .ref (a 206), .int 0, .int 0, .int 0, .int 0, .ref (a 208), .ref (a 209), .ref (a 210), .ref (a 211), .ref (a 212), .int 4, .int 12, .int (-1), .int 0, .ref (g 200), .ref (a 213), .int 0, .int 97, .ref (a 214), .ref (a 215), .ref (a 207), .null, .int 0]))] := hD
          refine lv_iload hx hb dL_law_3291 (lv_at hl 1 rfl) ?_
          refine lv_icmp_eq (tgt := 3298) hx hb dL_law_3293 (by decide) (fun c_2122 => ?_) (fun c_2122 => ?_)
          · refine lv_iload hx hb dL_law_3298 (lv_at hl 1 rfl) ?_
            refine lv_if_ne (tgt := 3322) hx hb dL_law_3300 (by decide) (fun c_2123 => ?_) (fun c_2123 => ?_)
            · refine lv_goto (tgt := 4264) hx hb dL_law_3322 (by decide) ?_
              refine W.widen (k := 200 + 300) (n := 8000 + 2000) (Nat.le_of_ble_eq_true rfl) (Nat.le_of_ble_eq_true rfl) ?_
              exact kk _ _ _ hS (lv_sub hl [7, 2] rfl)
            · exact absurd c_2123 (by decide)
          · exact absurd c_2122 (by decide)
        · obtain ⟨c_2124, c_2125, c_2126, c_2127, c_2128, c_2129⟩ := hw
          exact absurd (Int.le_trans (lo_le c_2018) (up_nlt c_2128)) (by decide)
        · obtain ⟨c_2130, c_2131, c_2132, c_2133, c_2134, c_2135, c_2136, c_2137⟩ := hw
          exact absurd (Int.le_trans (lo_le c_2018) (up_nlt c_2134)) (by decide)
        · obtain ⟨c_2138, c_2139, c_2140, c_2141, c_2142, c_2143, c_2144, c_2145, c_2146⟩ := hw
          exact absurd (Int.le_trans (lo_le c_2018) (up_nlt c_2142)) (by decide)
        · obtain ⟨c_2147, c_2148, c_2149, c_2150, c_2151, c_2152, c_2153, c_2154, c_2155, c_2156⟩ := hw
          exact absurd (Int.le_trans (lo_le c_2018) (up_nlt c_2151)) (by decide)
        · obtain ⟨c_2157, c_2158, c_2159, c_2160, c_2161, c_2162, c_2163, c_2164, c_2165, c_2166, c_2167⟩ := hw
          exact absurd (Int.le_trans (lo_le c_2018) (up_nlt c_2161)) (by decide)
        · obtain ⟨c_2168, c_2169, c_2170, c_2171, c_2172⟩ := hw
          exact absurd c_2168 c_2013
        · obtain ⟨c_2173, c_2174, c_2175, c_2176, c_2177, c_2178⟩ := hw
          exact absurd c_2173 c_2013
        · obtain ⟨c_2179, c_2180, c_2181, c_2182, c_2183, c_2184, c_2185⟩ := hw
          exact absurd c_2179 c_2013
        · obtain ⟨c_2186, c_2187, c_2188, c_2189, c_2190, c_2191, c_2192, c_2193⟩ := hw
          exact absurd c_2186 c_2013
        · obtain ⟨c_2194, c_2195, c_2196, c_2197, c_2198⟩ := hw
          exact absurd c_2194 c_2012
        · obtain ⟨c_2199, c_2200, c_2201, c_2202, c_2203, c_2204⟩ := hw
          exact absurd c_2199 c_2012
        · obtain ⟨c_2205, c_2206, c_2207, c_2208, c_2209, c_2210, c_2211⟩ := hw
          exact absurd c_2205 c_2012
        · obtain ⟨c_2212, c_2213, c_2214, c_2215, c_2216, c_2217, c_2218, c_2219⟩ := hw
          exact absurd c_2212 c_2012
      · obtain ⟨rfl, rfl, hw⟩ := hw
        rcases hw with hw | hw | hw | hw | hw
        · obtain ⟨c_2220, c_2221, c_2222, c_2223, c_2224, c_2225, c_2226, c_2227⟩ := hw
          exact absurd (c_2014.symm.trans c_2220) (by decide)
        · obtain ⟨c_2228, c_2229, c_2230, c_2231, c_2232, c_2233, c_2234, c_2235, c_2236, c_2237⟩ := hw
          exact absurd (c_2014.symm.trans c_2228) (by decide)
        · obtain ⟨c_2238, c_2239, c_2240, c_2241, c_2242, c_2243, c_2244, c_2245, c_2246, c_2247, c_2248⟩ := hw
          exact absurd (Int.le_trans (lo_le c_2018) (up_nlt c_2242)) (by decide)
        · obtain ⟨c_2249, c_2250, c_2251, c_2252, c_2253, c_2254, c_2255, c_2256⟩ := hw
          exact absurd c_2249 c_2013
        · obtain ⟨c_2257, c_2258, c_2259, c_2260, c_2261, c_2262, c_2263, c_2264⟩ := hw
          exact absurd c_2257 c_2012
    · obtain ⟨c_2265, c_2266, c_2267, c_2268, c_2269, c_2270, c_2271, c_2272, c_2273, c_2274, c_2275, c_2276⟩ := hw
      obtain ⟨hP1, hD1⟩ := hB
      rw [ht1] at hP1
      obtain ⟨hP, hD⟩ := va_join (wr := [((a 200), f_m a g)]) (w1 := [(o1, .inl (g 1, 1, .inr (.inl (fun _ => 0))))]) hP hD [3, 0, 1] [2] rfl rfl (by decide) (by decide) hk1 hFc hP1 hD1
      have hP : va_P D vwCl [((a 200), f_m a g), (o1, .inl (g 1, 1, .inr (.inl (fun _ => 0))))] H := hP
      have hD : va_D (va_A [] s.heap.size) [((a 200), f_m a g), (o1, .inl (g 1, 1, .inr (.inl (fun _ => 0))))] := hD
      refine lv_istore (lv' := [(6, .int 1), (0, .ref b), (1, .ref (a 0)), (2, .ref (a 200)), (3, .ref o1), (4, .ref o2), (5, .int 0)]) hx hb dL_law_3248 hl (by decide) rfl (fun ls hl => ?_)
      refine lv_aload_n hx hb dL_law_3250 rfl (lv_at hl 3 rfl) ?_
      refine lv_aload_n hx hb dL_law_3251 rfl (lv_at hl 1 rfl) ?_
      refine lv_iload hx hb dL_law_3252 (lv_at hl 6 rfl) ?_
      refine lv_iconst (v := 1) hx hb dL_law_3254 (by decide) ?_
      refine lv_iadd hx hb dL_law_3255 ?_
      refine r_topi (v := 1) (by decide) ?_
      refine va_sld hx hb hX hbl hbA hS (by unfold vp_in; decide) dL_law_3256 ?_
      refine r_topi (v := xs 1) (congrArg xs (by decide)) ?_
      refine lv_i2c (v := ((xs 1).toUInt32 % 65536).toInt32) hx hb dL_law_3257 rfl ?_
      refine lv_aload_n hx hb dL_law_3258 rfl (lv_at hl 1 rfl) ?_
      refine lv_iload hx hb dL_law_3259 (lv_at hl 6 rfl) ?_
      refine lv_iconst (v := 2) hx hb dL_law_3261 (by decide) ?_
      refine lv_iadd hx hb dL_law_3262 ?_
      refine r_topi (v := 2) (by decide) ?_
      refine va_sld hx hb hX hbl hbA hS (by unfold vp_in; decide) dL_law_3263 ?_
      refine r_topi (v := xs 2) (congrArg xs (by decide)) ?_
      refine lv_aload_n hx hb dL_law_3264 rfl (lv_at hl 1 rfl) ?_
      refine lv_iload hx hb dL_law_3265 (lv_at hl 6 rfl) ?_
      refine lv_iconst (v := 3) hx hb dL_law_3267 (by decide) ?_
      refine lv_iadd hx hb dL_law_3268 ?_
      refine r_topi (v := 3) (by decide) ?_
      refine va_sld hx hb hX hbl hbA hS (by unfold vp_in; decide) dL_law_3269 ?_
      refine r_topi (v := xs 3) (congrArg xs (by decide)) ?_
      refine lv_aload_n hx hb dL_law_3270 rfl (lv_at hl 1 rfl) ?_
      refine lv_iload hx hb dL_law_3271 (lv_at hl 6 rfl) ?_
      refine lv_iconst (v := 4) hx hb dL_law_3273 (by decide) ?_
      refine lv_iadd hx hb dL_law_3274 ?_
      refine r_topi (v := 4) (by decide) ?_
      refine va_sld hx hb hX hbl hbA hS (by unfold vp_in; decide) dL_law_3275 ?_
      refine r_topi (v := xs 4) (congrArg xs (by decide)) ?_
      refine lv_aload_n hx hb dL_law_3276 rfl (lv_at hl 1 rfl) ?_
      refine lv_iload hx hb dL_law_3277 (lv_at hl 6 rfl) ?_
      refine lv_iconst (v := 5) hx hb dL_law_3279 (by decide) ?_
      refine lv_iadd hx hb dL_law_3280 ?_
      refine r_topi (v := 5) (by decide) ?_
      refine va_sld hx hb hX hbl hbA hS (by unfold vp_in; decide) dL_law_3281 ?_
      refine r_topi (v := xs 5) (congrArg xs (by decide)) ?_
      have hPc : va_P D vwCl [((a 200), f_m a g)] _ := hP.sub (ws' := [((a 200), f_m a g)]) [0] rfl
      have hDc : va_D (fun q => z0 ≤ q) [((a 200), f_m a g)] := (hD.to hAz).pick (ws' := [((a 200), f_m a g)]) [0] (by decide) rfl
      have hFc := va_free (wc := [((a 200), f_m a g)]) hD hS hA [0] rfl
      refine va_calli (va_runV (As := [.int (((xs 1).toUInt32 % 65536).toInt32), .int (xs 2), .int (xs 3), .int (xs 4), .int (xs 5)]) (rest := []) ⟨hx, hb, hml, hown, ht⟩ (k_X15_marchFinds l D g z0 _ a (((xs 1).toUInt32 % 65536).toInt32) (xs 2) (xs 3) (xs 4) (xs 5) (isC_i2c _)) (cwV 5 ht (gV w_1231 w_1233 w_1234 w_334 w_1232) rfl rfl rfl (by decide +kernel) (le2 rfl rfl)) ⟨PP.blind, va_recv hK.1 hP (ci := 21) (q0 := 0) rfl rfl, PP.mk' hK hZ hz hAz hS hPc hDc⟩ rfl rfl hl.1 rfl (lv_room (Nat.le_of_ble_eq_true rfl)) dL_law_3282 (le2 rfl rfl)) hS (fun q _ h => hFc q h) hFc (fun r u t H locs ht1 hvm hw hB hz1 hk1 hS => ?_)
      rcases hw with hw | hw
      · obtain ⟨rfl, rfl, hw⟩ := hw
        rcases hw with hw | hw | hw | hw | hw | hw | hw | hw | hw | hw | hw | hw | hw | hw | hw | hw | hw | hw | hw | hw | hw | hw | hw | hw | hw | hw | hw | hw | hw | hw | hw | hw
        · obtain ⟨c_2277, c_2278, c_2279, c_2280, c_2281⟩ := hw
          exact absurd c_2267 c_2279
        · obtain ⟨c_2282, c_2283, c_2284, c_2285, c_2286⟩ := hw
          exact absurd c_2267 c_2284
        · obtain ⟨c_2287, c_2288, c_2289, c_2290, c_2291⟩ := hw
          exact absurd c_2267 c_2289
        · obtain ⟨c_2292, c_2293, c_2294, c_2295⟩ := hw
          exact absurd (c_2267.symm.trans c_2292) (by decide)
        · obtain ⟨c_2296, c_2297, c_2298, c_2299, c_2300⟩ := hw
          exact absurd (c_2267.symm.trans c_2296) (by decide)
        · obtain ⟨c_2301, c_2302, c_2303, c_2304, c_2305, c_2306⟩ := hw
          exact absurd (c_2267.symm.trans c_2301) (by decide)
        · obtain ⟨c_2307, c_2308, c_2309, c_2310, c_2311, c_2312, c_2313⟩ := hw
          exact absurd (c_2267.symm.trans c_2307) (by decide)
        · obtain ⟨c_2314, c_2315, c_2316, c_2317, c_2318, c_2319, c_2320, c_2321⟩ := hw
          exact absurd (c_2267.symm.trans c_2314) (by decide)
        · obtain ⟨c_2322, c_2323, c_2324⟩ := hw
          exact absurd (c_2267.symm.trans c_2322) (by decide)
        · obtain ⟨c_2325, c_2326, c_2327, c_2328⟩ := hw
          exact absurd (c_2267.symm.trans c_2325) (by decide)
        · obtain ⟨c_2329, c_2330, c_2331, c_2332, c_2333⟩ := hw
          exact absurd (c_2267.symm.trans c_2329) (by decide)
        · obtain ⟨c_2334, c_2335, c_2336, c_2337, c_2338, c_2339⟩ := hw
          exact absurd (c_2267.symm.trans c_2334) (by decide)
        · obtain ⟨c_2340, c_2341, c_2342, c_2343, c_2344, c_2345, c_2346⟩ := hw
          exact absurd (c_2267.symm.trans c_2340) (by decide)
        · obtain ⟨c_2347, c_2348, c_2349, c_2350, c_2351, c_2352, c_2353, c_2354, c_2355⟩ := hw
          exact absurd (c_2267.symm.trans c_2347) (by decide)
        · obtain ⟨c_2356, c_2357, c_2358, c_2359, c_2360, c_2361, c_2362, c_2363, c_2364, c_2365⟩ := hw
          exact absurd (c_2267.symm.trans c_2356) (by decide)
        · obtain ⟨c_2366, c_2367⟩ := hw
          exact absurd c_2367 c_2268
        · obtain ⟨c_2368, c_2369, c_2370⟩ := hw
          exact absurd (Int.le_trans (lo_lt c_2370) (up_lt c_2269)) (by decide)
        · obtain ⟨c_2371, c_2372, c_2373, c_2374⟩ := hw
          exact absurd c_2374 c_2270
        · obtain ⟨c_2375, c_2376, c_2377, c_2378, c_2379⟩ := hw
          exact absurd (Int.le_trans (lo_lt c_2379) (up_nle c_2271)) (by decide)
        · obtain ⟨c_2380, c_2381, c_2382, c_2383, c_2384, c_2385⟩ := hw
          exact absurd c_2385 c_2272
        · obtain ⟨c_2386, c_2387, c_2388, c_2389, c_2390, c_2391, c_2392, c_2393⟩ := hw
          exact absurd (c_2274 ▸ c_2393) (by decide)
        · obtain ⟨c_2394, c_2395, c_2396, c_2397, c_2398, c_2399, c_2400, c_2401, c_2402⟩ := hw
          exact absurd (c_2274 ▸ c_2402) (by decide)
        · obtain ⟨c_2403, c_2404, c_2405, c_2406, c_2407, c_2408, c_2409, c_2410, c_2411, c_2412⟩ := hw
          obtain ⟨hP1, hD1⟩ := hB
          rw [ht1] at hP1
          obtain ⟨hP, hD⟩ := va_join (wr := [(o1, .inl (g 1, 1, .inr (.inl (fun _ => 0))))]) (w1 := [((a 200), .inr (21, [.int 1, .ref (a 201), .ref (a 202), .ref (a 203), .ref (a 204), .ref (a 205), .ref (a 206), .int 0, .int 0, .int 0, .int 0, .ref (a 208), .ref (a 209), .ref (a 210), .ref (a 211), .ref (a 212), .int 4, .int 12, .int (-1), .int 0, .ref (g 200), .ref (a 213), .int 0, .int 97, .ref (a 214), .ref (a 215), .ref (a 207), .null, .int 0]))]) hP hD [0] [1] rfl rfl (by decide) (by decide) hk1 hFc hP1 hD1
          have hP : va_P D vwCl [(o1, .inl (g 1, 1, .inr (.inl (fun _ => 0)))), ((a 200), .inr (21, [.int 1, .ref (a 201), .ref (a 202), .ref (a 203), .ref (a 204), .ref (a 205), .ref (a 206), .int 0, .int 0, .int 0, .int 0, .ref (a 208), .ref (a 209), .ref (a 210), .ref (a 211), .ref (a 212), .int 4, .int 12, .int (-1), .int 0, .ref (g 200), .ref (a 213), .int 0, .int 97, .ref (a 214), .ref (a 215), .ref (a 207), .null, .int 0]))] H := hP
          have hD : va_D (va_A [] s.heap.size) [(o1, .inl (g 1, 1, .inr (.inl (fun _ => 0)))), ((a 200), .inr (21, [.int 1, .ref (a 201), .ref (a 202), .ref (a 203), .ref (a 204), .ref (a 205), .ref (a 206), .int 0, .int 0, .int 0, .int 0, .ref (a 208), .ref (a 209), .ref (a 210), .ref (a 211), .ref (a 212), .int 4, .int 12, .int (-1), .int 0, .ref (g 200), .ref (a 213), .int 0, .int 97, .ref (a 214), .ref (a 215), .ref (a 207), .null, .int 0]))] := hD
          refine lv_istore (lv' := [(7, .int 0), (6, .int 1), (0, .ref b), (1, .ref (a 0)), (2, .ref (a 200)), (3, .ref o1), (4, .ref o2), (5, .int 0)]) hx hb dL_law_3285 hl (by decide) rfl (fun ls hl => ?_)
          refine lv_aload_n hx hb dL_law_3287 rfl (lv_at hl 4 rfl) ?_
          have hPc : va_P D vwCl [((a 200), .inr (21, [.int 1, .ref (a 201), .ref (a 202), .ref (a 203), .ref (a 204), .ref (a 205), .ref (a 206), .int 0, .int 0, .int 0, .int 0, .ref (a 208), .ref (a 209), .ref (a 210), .ref (a 211), .ref (a 212), .int 4, .int 12, .int (-1), .int 0, .ref (g 200), .ref (a 213), .int 0, .int 97, .ref (a 214), .ref (a 215), .ref (a 207), .null, .int 0]))] _ := hP.sub (ws' := [((a 200), .inr (21, [.int 1, .ref (a 201), .ref (a 202), .ref (a 203), .ref (a 204), .ref (a 205), .ref (a 206), .int 0, .int 0, .int 0, .int 0, .ref (a 208), .ref (a 209), .ref (a 210), .ref (a 211), .ref (a 212), .int 4, .int 12, .int (-1), .int 0, .ref (g 200), .ref (a 213), .int 0, .int 97, .ref (a 214), .ref (a 215), .ref (a 207), .null, .int 0]))]) [1] rfl
          have hDc : va_D (fun q => z0 ≤ q) [((a 200), .inr (21, [.int 1, .ref (a 201), .ref (a 202), .ref (a 203), .ref (a 204), .ref (a 205), .ref (a 206), .int 0, .int 0, .int 0, .int 0, .ref (a 208), .ref (a 209), .ref (a 210), .ref (a 211), .ref (a 212), .int 4, .int 12, .int (-1), .int 0, .ref (g 200), .ref (a 213), .int 0, .int 97, .ref (a 214), .ref (a 215), .ref (a 207), .null, .int 0]))] := (hD.to hAz).pick (ws' := [((a 200), .inr (21, [.int 1, .ref (a 201), .ref (a 202), .ref (a 203), .ref (a 204), .ref (a 205), .ref (a 206), .int 0, .int 0, .int 0, .int 0, .ref (a 208), .ref (a 209), .ref (a 210), .ref (a 211), .ref (a 212), .int 4, .int 12, .int (-1), .int 0, .ref (g 200), .ref (a 213), .int 0, .int 97, .ref (a 214), .ref (a 215), .ref (a 207), .null, .int 0]))]) [1] (by decide) rfl
          have hFc := va_free (wc := [((a 200), .inr (21, [.int 1, .ref (a 201), .ref (a 202), .ref (a 203), .ref (a 204), .ref (a 205), .ref (a 206), .int 0, .int 0, .int 0, .int 0, .ref (a 208), .ref (a 209), .ref (a 210), .ref (a 211), .ref (a 212), .int 4, .int 12, .int (-1), .int 0, .ref (g 200), .ref (a 213), .int 0, .int 97, .ref (a 214), .ref (a 215), .ref (a 207), .null, .int 0]))]) hD hS hA [1] rfl
          refine va_calli (va_runV (As := []) (rest := []) ⟨hx, hb, hml, hown, ht⟩ (k_X15_thrown_v2 l D g z0 _ a) (cwV 0 ht (gV w_772 w_774 w_775 w_334 w_773) rfl rfl rfl (by decide +kernel) (le2 rfl rfl)) ⟨PP.blind, va_recv hK.1 hP (ci := 21) (q0 := 1) rfl rfl, PP.mk' hK hZ hz hAz hS hPc hDc⟩ rfl rfl hl.1 rfl (lv_room (Nat.le_of_ble_eq_true rfl)) dL_law_3288 (le2 rfl rfl)) hS (fun q _ h => hFc q h) hFc (fun r u t H locs ht1 hvm hw hB hz1 hk1 hS => ?_)
          obtain ⟨rfl, hw⟩ := hw
          obtain ⟨hP1, hD1⟩ := hB
          rw [ht1] at hP1
          obtain ⟨hP, hD⟩ := va_join (wr := [(o1, .inl (g 1, 1, .inr (.inl (fun _ => 0))))]) (w1 := [((a 200), .inr (21, [.int 1, .ref (a 201), .ref (a 202), .ref (a 203), .ref (a 204), .ref (a 205), .ref (a 206), .int 0, .int 0, .int 0, .int 0, .ref (a 208), .ref (a 209), .ref (a 210), .ref (a 211), .ref (a 212), .int 4, .int 12, .int (-1), .int 0, .ref (g 200), .ref (a 213), .int 0, .int 97, .ref (a 214), .ref (a 215), .ref (a 207), .null, .int 0]))]) hP hD [1] [0] rfl rfl (by decide) (by decide) hk1 hFc hP1 hD1
          have hP : va_P D vwCl [(o1, .inl (g 1, 1, .inr (.inl (fun _ => 0)))), ((a 200), .inr (21, [.int 1, .ref (a 201), .ref (a 202), .ref (a 203), .ref (a 204), .ref (a 205), .ref (a 206), .int 0, .int 0, .int 0, .int 0, .ref (a 208), .ref (a 209), .ref (a 210), .ref (a 211), .ref (a 212), .int 4, .int 12, .int (-1), .int 0, .ref (g 200), .ref (a 213), .int 0, .int 97, .ref (a 214), .ref (a 215), .ref (a 207), .null, .int 0]))] H := hP
          have hD : va_D (va_A [] s.heap.size) [(o1, .inl (g 1, 1, .inr (.inl (fun _ => 0)))), ((a 200), .inr (21, [.int 1, .ref (a 201), .ref (a 202), .ref (a 203), .ref (a 204), .ref (a 205), .ref (a 206), .int 0, .int 0, .int 0, .int 0, .ref (a 208), .ref (a 209), .ref (a 210), .ref (a 211), .ref (a 212), .int 4, .int 12, .int (-1), .int 0, .ref (g 200), .ref (a 213), .int 0, .int 97, .ref (a 214), .ref (a 215), .ref (a 207), .null, .int 0]))] := hD
          refine lv_iload hx hb dL_law_3291 (lv_at hl 1 rfl) ?_
          refine lv_icmp_eq (tgt := 3298) hx hb dL_law_3293 (by decide) (fun c_2413 => ?_) (fun c_2413 => ?_)
          · refine lv_iload hx hb dL_law_3298 (lv_at hl 1 rfl) ?_
            refine lv_if_ne (tgt := 3322) hx hb dL_law_3300 (by decide) (fun c_2414 => ?_) (fun c_2414 => ?_)
            · refine lv_goto (tgt := 4264) hx hb dL_law_3322 (by decide) ?_
              refine W.widen (k := 200 + 300) (n := 8000 + 2000) (Nat.le_of_ble_eq_true rfl) (Nat.le_of_ble_eq_true rfl) ?_
              exact kk _ _ _ hS (lv_sub hl [7, 2] rfl)
            · exact absurd c_2414 (by decide)
          · exact absurd c_2413 (by decide)
        · obtain ⟨c_2415, c_2416, c_2417, c_2418, c_2419, c_2420, c_2421, c_2422, c_2423, c_2424, c_2425⟩ := hw
          obtain ⟨hP1, hD1⟩ := hB
          rw [ht1] at hP1
          obtain ⟨hP, hD⟩ := va_join (wr := [(o1, .inl (g 1, 1, .inr (.inl (fun _ => 0))))]) (w1 := [((a 200), .inr (21, [.int 1, .ref (a 201), .ref (a 202), .ref (a 203), .ref (a 204), .ref (a 205), .ref (a 206), .int 0, .int 0, .int 0, .int 0, .ref (a 208), .ref (a 209), .ref (a 210), .ref (a 211), .ref (a 212), .int 4, .int 12, .int (-1), .int 0, .ref (g 200), .ref (a 213), .int 0, .int 97, .ref (a 214), .ref (a 215), .ref (a 207), .null, .int 0]))]) hP hD [0] [1] rfl rfl (by decide) (by decide) hk1 hFc hP1 hD1
          have hP : va_P D vwCl [(o1, .inl (g 1, 1, .inr (.inl (fun _ => 0)))), ((a 200), .inr (21, [.int 1, .ref (a 201), .ref (a 202), .ref (a 203), .ref (a 204), .ref (a 205), .ref (a 206), .int 0, .int 0, .int 0, .int 0, .ref (a 208), .ref (a 209), .ref (a 210), .ref (a 211), .ref (a 212), .int 4, .int 12, .int (-1), .int 0, .ref (g 200), .ref (a 213), .int 0, .int 97, .ref (a 214), .ref (a 215), .ref (a 207), .null, .int 0]))] H := hP
          have hD : va_D (va_A [] s.heap.size) [(o1, .inl (g 1, 1, .inr (.inl (fun _ => 0)))), ((a 200), .inr (21, [.int 1, .ref (a 201), .ref (a 202), .ref (a 203), .ref (a 204), .ref (a 205), .ref (a 206), .int 0, .int 0, .int 0, .int 0, .ref (a 208), .ref (a 209), .ref (a 210), .ref (a 211), .ref (a 212), .int 4, .int 12, .int (-1), .int 0, .ref (g 200), .ref (a 213), .int 0, .int 97, .ref (a 214), .ref (a 215), .ref (a 207), .null, .int 0]))] := hD
          refine lv_istore (lv' := [(7, .int 0), (6, .int 1), (0, .ref b), (1, .ref (a 0)), (2, .ref (a 200)), (3, .ref o1), (4, .ref o2), (5, .int 0)]) hx hb dL_law_3285 hl (by decide) rfl (fun ls hl => ?_)
          refine lv_aload_n hx hb dL_law_3287 rfl (lv_at hl 4 rfl) ?_
          have hPc : va_P D vwCl [((a 200), .inr (21, [.int 1, .ref (a 201), .ref (a 202), .ref (a 203), .ref (a 204), .ref (a 205), .ref (a 206), .int 0, .int 0, .int 0, .int 0, .ref (a 208), .ref (a 209), .ref (a 210), .ref (a 211), .ref (a 212), .int 4, .int 12, .int (-1), .int 0, .ref (g 200), .ref (a 213), .int 0, .int 97, .ref (a 214), .ref (a 215), .ref (a 207), .null, .int 0]))] _ := hP.sub (ws' := [((a 200), .inr (21, [.int 1, .ref (a 201), .ref (a 202), .ref (a 203), .ref (a 204), .ref (a 205), .ref (a 206), .int 0, .int 0, .int 0, .int 0, .ref (a 208), .ref (a 209), .ref (a 210), .ref (a 211), .ref (a 212), .int 4, .int 12, .int (-1), .int 0, .ref (g 200), .ref (a 213), .int 0, .int 97, .ref (a 214), .ref (a 215), .ref (a 207), .null, .int 0]))]) [1] rfl
          have hDc : va_D (fun q => z0 ≤ q) [((a 200), .inr (21, [.int 1, .ref (a 201), .ref (a 202), .ref (a 203), .ref (a 204), .ref (a 205), .ref (a 206), .int 0, .int 0, .int 0, .int 0, .ref (a 208), .ref (a 209), .ref (a 210), .ref (a 211), .ref (a 212), .int 4, .int 12, .int (-1), .int 0, .ref (g 200), .ref (a 213), .int 0, .int 97, .ref (a 214), .ref (a 215), .ref (a 207), .null, .int 0]))] := (hD.to hAz).pick (ws' := [((a 200), .inr (21, [.int 1, .ref (a 201), .ref (a 202), .ref (a 203), .ref (a 204), .ref (a 205), .ref (a 206), .int 0, .int 0, .int 0, .int 0, .ref (a 208), .ref (a 209), .ref (a 210), .ref (a 211), .ref (a 212), .int 4, .int 12, .int (-1), .int 0, .ref (g 200), .ref (a 213), .int 0, .int 97, .ref (a 214), .ref (a 215), .ref (a 207), .null, .int 0]))]) [1] (by decide) rfl
          have hFc := va_free (wc := [((a 200), .inr (21, [.int 1, .ref (a 201), .ref (a 202), .ref (a 203), .ref (a 204), .ref (a 205), .ref (a 206), .int 0, .int 0, .int 0, .int 0, .ref (a 208), .ref (a 209), .ref (a 210), .ref (a 211), .ref (a 212), .int 4, .int 12, .int (-1), .int 0, .ref (g 200), .ref (a 213), .int 0, .int 97, .ref (a 214), .ref (a 215), .ref (a 207), .null, .int 0]))]) hD hS hA [1] rfl
          refine va_calli (va_runV (As := []) (rest := []) ⟨hx, hb, hml, hown, ht⟩ (k_X15_thrown_v2 l D g z0 _ a) (cwV 0 ht (gV w_772 w_774 w_775 w_334 w_773) rfl rfl rfl (by decide +kernel) (le2 rfl rfl)) ⟨PP.blind, va_recv hK.1 hP (ci := 21) (q0 := 1) rfl rfl, PP.mk' hK hZ hz hAz hS hPc hDc⟩ rfl rfl hl.1 rfl (lv_room (Nat.le_of_ble_eq_true rfl)) dL_law_3288 (le2 rfl rfl)) hS (fun q _ h => hFc q h) hFc (fun r u t H locs ht1 hvm hw hB hz1 hk1 hS => ?_)
          obtain ⟨rfl, hw⟩ := hw
          obtain ⟨hP1, hD1⟩ := hB
          rw [ht1] at hP1
          obtain ⟨hP, hD⟩ := va_join (wr := [(o1, .inl (g 1, 1, .inr (.inl (fun _ => 0))))]) (w1 := [((a 200), .inr (21, [.int 1, .ref (a 201), .ref (a 202), .ref (a 203), .ref (a 204), .ref (a 205), .ref (a 206), .int 0, .int 0, .int 0, .int 0, .ref (a 208), .ref (a 209), .ref (a 210), .ref (a 211), .ref (a 212), .int 4, .int 12, .int (-1), .int 0, .ref (g 200), .ref (a 213), .int 0, .int 97, .ref (a 214), .ref (a 215), .ref (a 207), .null, .int 0]))]) hP hD [1] [0] rfl rfl (by decide) (by decide) hk1 hFc hP1 hD1
          have hP : va_P D vwCl [(o1, .inl (g 1, 1, .inr (.inl (fun _ => 0)))), ((a 200), .inr (21, [.int 1, .ref (a 201), .ref (a 202), .ref (a 203), .ref (a 204), .ref (a 205), .ref (a 206), .int 0, .int 0, .int 0, .int 0, .ref (a 208), .ref (a 209), .ref (a 210), .ref (a 211), .ref (a 212), .int 4, .int 12, .int (-1), .int 0, .ref (g 200), .ref (a 213), .int 0, .int 97, .ref (a 214), .ref (a 215), .ref (a 207), .null, .int 0]))] H := hP
          have hD : va_D (va_A [] s.heap.size) [(o1, .inl (g 1, 1, .inr (.inl (fun _ => 0)))), ((a 200), .inr (21, [.int 1, .ref (a 201), .ref (a 202), .ref (a 203), .ref (a 204), .ref (a 205), .ref (a 206), .int 0, .int 0, .int 0, .int 0, .ref (a 208), .ref (a 209), .ref (a 210), .ref (a 211), .ref (a 212), .int 4, .int 12, .int (-1), .int 0, .ref (g 200), .ref (a 213), .int 0, .int 97, .ref (a 214), .ref (a 215), .ref (a 207), .null, .int 0]))] := hD
          refine lv_iload hx hb dL_law_3291 (lv_at hl 1 rfl) ?_
          refine lv_icmp_eq (tgt := 3298) hx hb dL_law_3293 (by decide) (fun c_2426 => ?_) (fun c_2426 => ?_)
          · refine lv_iload hx hb dL_law_3298 (lv_at hl 1 rfl) ?_
            refine lv_if_ne (tgt := 3322) hx hb dL_law_3300 (by decide) (fun c_2427 => ?_) (fun c_2427 => ?_)
            · refine lv_goto (tgt := 4264) hx hb dL_law_3322 (by decide) ?_
              refine W.widen (k := 200 + 300) (n := 8000 + 2000) (Nat.le_of_ble_eq_true rfl) (Nat.le_of_ble_eq_true rfl) ?_
              exact kk _ _ _ hS (lv_sub hl [7, 2] rfl)
            · exact absurd c_2427 (by decide)
          · exact absurd c_2426 (by decide)
        · obtain ⟨c_2428, c_2429, c_2430, c_2431, c_2432⟩ := hw
          exact absurd c_2428 c_2266
        · obtain ⟨c_2433, c_2434, c_2435, c_2436, c_2437, c_2438⟩ := hw
          exact absurd c_2433 c_2266
        · obtain ⟨c_2439, c_2440, c_2441, c_2442, c_2443, c_2444, c_2445⟩ := hw
          exact absurd c_2439 c_2266
        · obtain ⟨c_2446, c_2447, c_2448, c_2449, c_2450, c_2451, c_2452, c_2453⟩ := hw
          exact absurd c_2446 c_2266
        · obtain ⟨c_2454, c_2455, c_2456, c_2457, c_2458⟩ := hw
          exact absurd c_2454 c_2265
        · obtain ⟨c_2459, c_2460, c_2461, c_2462, c_2463, c_2464⟩ := hw
          exact absurd c_2459 c_2265
        · obtain ⟨c_2465, c_2466, c_2467, c_2468, c_2469, c_2470, c_2471⟩ := hw
          exact absurd c_2465 c_2265
        · obtain ⟨c_2472, c_2473, c_2474, c_2475, c_2476, c_2477, c_2478, c_2479⟩ := hw
          exact absurd c_2472 c_2265
      · obtain ⟨rfl, rfl, hw⟩ := hw
        rcases hw with hw | hw | hw | hw | hw
        · obtain ⟨c_2480, c_2481, c_2482, c_2483, c_2484, c_2485, c_2486, c_2487⟩ := hw
          exact absurd (c_2267.symm.trans c_2480) (by decide)
        · obtain ⟨c_2488, c_2489, c_2490, c_2491, c_2492, c_2493, c_2494, c_2495, c_2496, c_2497⟩ := hw
          exact absurd (c_2267.symm.trans c_2488) (by decide)
        · obtain ⟨c_2498, c_2499, c_2500, c_2501, c_2502, c_2503, c_2504, c_2505, c_2506, c_2507, c_2508⟩ := hw
          exact (two_out (lo_nlt c_2507) (up_nlt c_2508) c_2275 c_2276).elim
        · obtain ⟨c_2509, c_2510, c_2511, c_2512, c_2513, c_2514, c_2515, c_2516⟩ := hw
          exact absurd c_2509 c_2266
        · obtain ⟨c_2517, c_2518, c_2519, c_2520, c_2521, c_2522, c_2523, c_2524⟩ := hw
          exact absurd c_2517 c_2265
    · obtain ⟨c_2525, c_2526, c_2527, c_2528, c_2529, c_2530, c_2531, c_2532, c_2533, c_2534, c_2535, c_2536, c_2537⟩ := hw
      obtain ⟨hP1, hD1⟩ := hB
      rw [ht1] at hP1
      obtain ⟨hP, hD⟩ := va_join (wr := [((a 200), f_m a g)]) (w1 := [(o1, .inl (g 1, 1, .inr (.inl (fun _ => 0))))]) hP hD [3, 0, 1] [2] rfl rfl (by decide) (by decide) hk1 hFc hP1 hD1
      have hP : va_P D vwCl [((a 200), f_m a g), (o1, .inl (g 1, 1, .inr (.inl (fun _ => 0))))] H := hP
      have hD : va_D (va_A [] s.heap.size) [((a 200), f_m a g), (o1, .inl (g 1, 1, .inr (.inl (fun _ => 0))))] := hD
      refine lv_istore (lv' := [(6, .int 1), (0, .ref b), (1, .ref (a 0)), (2, .ref (a 200)), (3, .ref o1), (4, .ref o2), (5, .int 0)]) hx hb dL_law_3248 hl (by decide) rfl (fun ls hl => ?_)
      refine lv_aload_n hx hb dL_law_3250 rfl (lv_at hl 3 rfl) ?_
      refine lv_aload_n hx hb dL_law_3251 rfl (lv_at hl 1 rfl) ?_
      refine lv_iload hx hb dL_law_3252 (lv_at hl 6 rfl) ?_
      refine lv_iconst (v := 1) hx hb dL_law_3254 (by decide) ?_
      refine lv_iadd hx hb dL_law_3255 ?_
      refine r_topi (v := 1) (by decide) ?_
      refine va_sld hx hb hX hbl hbA hS (by unfold vp_in; decide) dL_law_3256 ?_
      refine r_topi (v := xs 1) (congrArg xs (by decide)) ?_
      refine lv_i2c (v := ((xs 1).toUInt32 % 65536).toInt32) hx hb dL_law_3257 rfl ?_
      refine lv_aload_n hx hb dL_law_3258 rfl (lv_at hl 1 rfl) ?_
      refine lv_iload hx hb dL_law_3259 (lv_at hl 6 rfl) ?_
      refine lv_iconst (v := 2) hx hb dL_law_3261 (by decide) ?_
      refine lv_iadd hx hb dL_law_3262 ?_
      refine r_topi (v := 2) (by decide) ?_
      refine va_sld hx hb hX hbl hbA hS (by unfold vp_in; decide) dL_law_3263 ?_
      refine r_topi (v := xs 2) (congrArg xs (by decide)) ?_
      refine lv_aload_n hx hb dL_law_3264 rfl (lv_at hl 1 rfl) ?_
      refine lv_iload hx hb dL_law_3265 (lv_at hl 6 rfl) ?_
      refine lv_iconst (v := 3) hx hb dL_law_3267 (by decide) ?_
      refine lv_iadd hx hb dL_law_3268 ?_
      refine r_topi (v := 3) (by decide) ?_
      refine va_sld hx hb hX hbl hbA hS (by unfold vp_in; decide) dL_law_3269 ?_
      refine r_topi (v := xs 3) (congrArg xs (by decide)) ?_
      refine lv_aload_n hx hb dL_law_3270 rfl (lv_at hl 1 rfl) ?_
      refine lv_iload hx hb dL_law_3271 (lv_at hl 6 rfl) ?_
      refine lv_iconst (v := 4) hx hb dL_law_3273 (by decide) ?_
      refine lv_iadd hx hb dL_law_3274 ?_
      refine r_topi (v := 4) (by decide) ?_
      refine va_sld hx hb hX hbl hbA hS (by unfold vp_in; decide) dL_law_3275 ?_
      refine r_topi (v := xs 4) (congrArg xs (by decide)) ?_
      refine lv_aload_n hx hb dL_law_3276 rfl (lv_at hl 1 rfl) ?_
      refine lv_iload hx hb dL_law_3277 (lv_at hl 6 rfl) ?_
      refine lv_iconst (v := 5) hx hb dL_law_3279 (by decide) ?_
      refine lv_iadd hx hb dL_law_3280 ?_
      refine r_topi (v := 5) (by decide) ?_
      refine va_sld hx hb hX hbl hbA hS (by unfold vp_in; decide) dL_law_3281 ?_
      refine r_topi (v := xs 5) (congrArg xs (by decide)) ?_
      have hPc : va_P D vwCl [((a 200), f_m a g)] _ := hP.sub (ws' := [((a 200), f_m a g)]) [0] rfl
      have hDc : va_D (fun q => z0 ≤ q) [((a 200), f_m a g)] := (hD.to hAz).pick (ws' := [((a 200), f_m a g)]) [0] (by decide) rfl
      have hFc := va_free (wc := [((a 200), f_m a g)]) hD hS hA [0] rfl
      refine va_calli (va_runV (As := [.int (((xs 1).toUInt32 % 65536).toInt32), .int (xs 2), .int (xs 3), .int (xs 4), .int (xs 5)]) (rest := []) ⟨hx, hb, hml, hown, ht⟩ (k_X15_marchFinds l D g z0 _ a (((xs 1).toUInt32 % 65536).toInt32) (xs 2) (xs 3) (xs 4) (xs 5) (isC_i2c _)) (cwV 5 ht (gV w_1231 w_1233 w_1234 w_334 w_1232) rfl rfl rfl (by decide +kernel) (le2 rfl rfl)) ⟨PP.blind, va_recv hK.1 hP (ci := 21) (q0 := 0) rfl rfl, PP.mk' hK hZ hz hAz hS hPc hDc⟩ rfl rfl hl.1 rfl (lv_room (Nat.le_of_ble_eq_true rfl)) dL_law_3282 (le2 rfl rfl)) hS (fun q _ h => hFc q h) hFc (fun r u t H locs ht1 hvm hw hB hz1 hk1 hS => ?_)
      rcases hw with hw | hw
      · obtain ⟨rfl, rfl, hw⟩ := hw
        rcases hw with hw | hw | hw | hw | hw | hw | hw | hw | hw | hw | hw | hw | hw | hw | hw | hw | hw | hw | hw | hw | hw | hw | hw | hw | hw | hw | hw | hw | hw | hw | hw | hw
        · obtain ⟨c_2538, c_2539, c_2540, c_2541, c_2542⟩ := hw
          exact absurd c_2527 c_2540
        · obtain ⟨c_2543, c_2544, c_2545, c_2546, c_2547⟩ := hw
          exact absurd c_2527 c_2545
        · obtain ⟨c_2548, c_2549, c_2550, c_2551, c_2552⟩ := hw
          exact absurd c_2527 c_2550
        · obtain ⟨c_2553, c_2554, c_2555, c_2556⟩ := hw
          exact absurd (c_2527.symm.trans c_2553) (by decide)
        · obtain ⟨c_2557, c_2558, c_2559, c_2560, c_2561⟩ := hw
          exact absurd (c_2527.symm.trans c_2557) (by decide)
        · obtain ⟨c_2562, c_2563, c_2564, c_2565, c_2566, c_2567⟩ := hw
          exact absurd (c_2527.symm.trans c_2562) (by decide)
        · obtain ⟨c_2568, c_2569, c_2570, c_2571, c_2572, c_2573, c_2574⟩ := hw
          exact absurd (c_2527.symm.trans c_2568) (by decide)
        · obtain ⟨c_2575, c_2576, c_2577, c_2578, c_2579, c_2580, c_2581, c_2582⟩ := hw
          exact absurd (c_2527.symm.trans c_2575) (by decide)
        · obtain ⟨c_2583, c_2584, c_2585⟩ := hw
          exact absurd (c_2527.symm.trans c_2583) (by decide)
        · obtain ⟨c_2586, c_2587, c_2588, c_2589⟩ := hw
          exact absurd (c_2527.symm.trans c_2586) (by decide)
        · obtain ⟨c_2590, c_2591, c_2592, c_2593, c_2594⟩ := hw
          exact absurd (c_2527.symm.trans c_2590) (by decide)
        · obtain ⟨c_2595, c_2596, c_2597, c_2598, c_2599, c_2600⟩ := hw
          exact absurd (c_2527.symm.trans c_2595) (by decide)
        · obtain ⟨c_2601, c_2602, c_2603, c_2604, c_2605, c_2606, c_2607⟩ := hw
          exact absurd (c_2527.symm.trans c_2601) (by decide)
        · obtain ⟨c_2608, c_2609, c_2610, c_2611, c_2612, c_2613, c_2614, c_2615, c_2616⟩ := hw
          exact absurd (c_2527.symm.trans c_2608) (by decide)
        · obtain ⟨c_2617, c_2618, c_2619, c_2620, c_2621, c_2622, c_2623, c_2624, c_2625, c_2626⟩ := hw
          exact absurd (c_2527.symm.trans c_2617) (by decide)
        · obtain ⟨c_2627, c_2628⟩ := hw
          exact absurd c_2628 c_2528
        · obtain ⟨c_2629, c_2630, c_2631⟩ := hw
          exact absurd (Int.le_trans (lo_lt c_2631) (up_lt c_2529)) (by decide)
        · obtain ⟨c_2632, c_2633, c_2634, c_2635⟩ := hw
          exact absurd c_2635 c_2530
        · obtain ⟨c_2636, c_2637, c_2638, c_2639, c_2640⟩ := hw
          exact absurd (Int.le_trans (lo_lt c_2640) (up_nle c_2531)) (by decide)
        · obtain ⟨c_2641, c_2642, c_2643, c_2644, c_2645, c_2646⟩ := hw
          exact absurd c_2646 c_2532
        · obtain ⟨c_2647, c_2648, c_2649, c_2650, c_2651, c_2652, c_2653, c_2654⟩ := hw
          exact absurd (c_2535 ▸ c_2654) (by decide)
        · obtain ⟨c_2655, c_2656, c_2657, c_2658, c_2659, c_2660, c_2661, c_2662, c_2663⟩ := hw
          exact absurd (c_2535 ▸ c_2663) (by decide)
        · obtain ⟨c_2664, c_2665, c_2666, c_2667, c_2668, c_2669, c_2670, c_2671, c_2672, c_2673⟩ := hw
          obtain ⟨hP1, hD1⟩ := hB
          rw [ht1] at hP1
          obtain ⟨hP, hD⟩ := va_join (wr := [(o1, .inl (g 1, 1, .inr (.inl (fun _ => 0))))]) (w1 := [((a 200), .inr (21, [.int 1, .ref (a 201), .ref (a 202), .ref (a 203), .ref (a 204), .ref (a 205), .ref (a 206), .int 0, .int 0, .int 0, .int 0, .ref (a 208), .ref (a 209), .ref (a 210), .ref (a 211), .ref (a 212), .int 4, .int 12, .int (-1), .int 0, .ref (g 200), .ref (a 213), .int 0, .int 97, .ref (a 214), .ref (a 215), .ref (a 207), .null, .int 0]))]) hP hD [0] [1] rfl rfl (by decide) (by decide) hk1 hFc hP1 hD1
          have hP : va_P D vwCl [(o1, .inl (g 1, 1, .inr (.inl (fun _ => 0)))), ((a 200), .inr (21, [.int 1, .ref (a 201), .ref (a 202), .ref (a 203), .ref (a 204), .ref (a 205), .ref (a 206), .int 0, .int 0, .int 0, .int 0, .ref (a 208), .ref (a 209), .ref (a 210), .ref (a 211), .ref (a 212), .int 4, .int 12, .int (-1), .int 0, .ref (g 200), .ref (a 213), .int 0, .int 97, .ref (a 214), .ref (a 215), .ref (a 207), .null, .int 0]))] H := hP
          have hD : va_D (va_A [] s.heap.size) [(o1, .inl (g 1, 1, .inr (.inl (fun _ => 0)))), ((a 200), .inr (21, [.int 1, .ref (a 201), .ref (a 202), .ref (a 203), .ref (a 204), .ref (a 205), .ref (a 206), .int 0, .int 0, .int 0, .int 0, .ref (a 208), .ref (a 209), .ref (a 210), .ref (a 211), .ref (a 212), .int 4, .int 12, .int (-1), .int 0, .ref (g 200), .ref (a 213), .int 0, .int 97, .ref (a 214), .ref (a 215), .ref (a 207), .null, .int 0]))] := hD
          refine lv_istore (lv' := [(7, .int 0), (6, .int 1), (0, .ref b), (1, .ref (a 0)), (2, .ref (a 200)), (3, .ref o1), (4, .ref o2), (5, .int 0)]) hx hb dL_law_3285 hl (by decide) rfl (fun ls hl => ?_)
          refine lv_aload_n hx hb dL_law_3287 rfl (lv_at hl 4 rfl) ?_
          have hPc : va_P D vwCl [((a 200), .inr (21, [.int 1, .ref (a 201), .ref (a 202), .ref (a 203), .ref (a 204), .ref (a 205), .ref (a 206), .int 0, .int 0, .int 0, .int 0, .ref (a 208), .ref (a 209), .ref (a 210), .ref (a 211), .ref (a 212), .int 4, .int 12, .int (-1), .int 0, .ref (g 200), .ref (a 213), .int 0, .int 97, .ref (a 214), .ref (a 215), .ref (a 207), .null, .int 0]))] _ := hP.sub (ws' := [((a 200), .inr (21, [.int 1, .ref (a 201), .ref (a 202), .ref (a 203), .ref (a 204), .ref (a 205), .ref (a 206), .int 0, .int 0, .int 0, .int 0, .ref (a 208), .ref (a 209), .ref (a 210), .ref (a 211), .ref (a 212), .int 4, .int 12, .int (-1), .int 0, .ref (g 200), .ref (a 213), .int 0, .int 97, .ref (a 214), .ref (a 215), .ref (a 207), .null, .int 0]))]) [1] rfl
          have hDc : va_D (fun q => z0 ≤ q) [((a 200), .inr (21, [.int 1, .ref (a 201), .ref (a 202), .ref (a 203), .ref (a 204), .ref (a 205), .ref (a 206), .int 0, .int 0, .int 0, .int 0, .ref (a 208), .ref (a 209), .ref (a 210), .ref (a 211), .ref (a 212), .int 4, .int 12, .int (-1), .int 0, .ref (g 200), .ref (a 213), .int 0, .int 97, .ref (a 214), .ref (a 215), .ref (a 207), .null, .int 0]))] := (hD.to hAz).pick (ws' := [((a 200), .inr (21, [.int 1, .ref (a 201), .ref (a 202), .ref (a 203), .ref (a 204), .ref (a 205), .ref (a 206), .int 0, .int 0, .int 0, .int 0, .ref (a 208), .ref (a 209), .ref (a 210), .ref (a 211), .ref (a 212), .int 4, .int 12, .int (-1), .int 0, .ref (g 200), .ref (a 213), .int 0, .int 97, .ref (a 214), .ref (a 215), .ref (a 207), .null, .int 0]))]) [1] (by decide) rfl
          have hFc := va_free (wc := [((a 200), .inr (21, [.int 1, .ref (a 201), .ref (a 202), .ref (a 203), .ref (a 204), .ref (a 205), .ref (a 206), .int 0, .int 0, .int 0, .int 0, .ref (a 208), .ref (a 209), .ref (a 210), .ref (a 211), .ref (a 212), .int 4, .int 12, .int (-1), .int 0, .ref (g 200), .ref (a 213), .int 0, .int 97, .ref (a 214), .ref (a 215), .ref (a 207), .null, .int 0]))]) hD hS hA [1] rfl
          refine va_calli (va_runV (As := []) (rest := []) ⟨hx, hb, hml, hown, ht⟩ (k_X15_thrown_v2 l D g z0 _ a) (cwV 0 ht (gV w_772 w_774 w_775 w_334 w_773) rfl rfl rfl (by decide +kernel) (le2 rfl rfl)) ⟨PP.blind, va_recv hK.1 hP (ci := 21) (q0 := 1) rfl rfl, PP.mk' hK hZ hz hAz hS hPc hDc⟩ rfl rfl hl.1 rfl (lv_room (Nat.le_of_ble_eq_true rfl)) dL_law_3288 (le2 rfl rfl)) hS (fun q _ h => hFc q h) hFc (fun r u t H locs ht1 hvm hw hB hz1 hk1 hS => ?_)
          obtain ⟨rfl, hw⟩ := hw
          obtain ⟨hP1, hD1⟩ := hB
          rw [ht1] at hP1
          obtain ⟨hP, hD⟩ := va_join (wr := [(o1, .inl (g 1, 1, .inr (.inl (fun _ => 0))))]) (w1 := [((a 200), .inr (21, [.int 1, .ref (a 201), .ref (a 202), .ref (a 203), .ref (a 204), .ref (a 205), .ref (a 206), .int 0, .int 0, .int 0, .int 0, .ref (a 208), .ref (a 209), .ref (a 210), .ref (a 211), .ref (a 212), .int 4, .int 12, .int (-1), .int 0, .ref (g 200), .ref (a 213), .int 0, .int 97, .ref (a 214), .ref (a 215), .ref (a 207), .null, .int 0]))]) hP hD [1] [0] rfl rfl (by decide) (by decide) hk1 hFc hP1 hD1
          have hP : va_P D vwCl [(o1, .inl (g 1, 1, .inr (.inl (fun _ => 0)))), ((a 200), .inr (21, [.int 1, .ref (a 201), .ref (a 202), .ref (a 203), .ref (a 204), .ref (a 205), .ref (a 206), .int 0, .int 0, .int 0, .int 0, .ref (a 208), .ref (a 209), .ref (a 210), .ref (a 211), .ref (a 212), .int 4, .int 12, .int (-1), .int 0, .ref (g 200), .ref (a 213), .int 0, .int 97, .ref (a 214), .ref (a 215), .ref (a 207), .null, .int 0]))] H := hP
          have hD : va_D (va_A [] s.heap.size) [(o1, .inl (g 1, 1, .inr (.inl (fun _ => 0)))), ((a 200), .inr (21, [.int 1, .ref (a 201), .ref (a 202), .ref (a 203), .ref (a 204), .ref (a 205), .ref (a 206), .int 0, .int 0, .int 0, .int 0, .ref (a 208), .ref (a 209), .ref (a 210), .ref (a 211), .ref (a 212), .int 4, .int 12, .int (-1), .int 0, .ref (g 200), .ref (a 213), .int 0, .int 97, .ref (a 214), .ref (a 215), .ref (a 207), .null, .int 0]))] := hD
          refine lv_iload hx hb dL_law_3291 (lv_at hl 1 rfl) ?_
          refine lv_icmp_eq (tgt := 3298) hx hb dL_law_3293 (by decide) (fun c_2674 => ?_) (fun c_2674 => ?_)
          · refine lv_iload hx hb dL_law_3298 (lv_at hl 1 rfl) ?_
            refine lv_if_ne (tgt := 3322) hx hb dL_law_3300 (by decide) (fun c_2675 => ?_) (fun c_2675 => ?_)
            · refine lv_goto (tgt := 4264) hx hb dL_law_3322 (by decide) ?_
              refine W.widen (k := 200 + 300) (n := 8000 + 2000) (Nat.le_of_ble_eq_true rfl) (Nat.le_of_ble_eq_true rfl) ?_
              exact kk _ _ _ hS (lv_sub hl [7, 2] rfl)
            · exact absurd c_2675 (by decide)
          · exact absurd c_2674 (by decide)
        · obtain ⟨c_2676, c_2677, c_2678, c_2679, c_2680, c_2681, c_2682, c_2683, c_2684, c_2685, c_2686⟩ := hw
          obtain ⟨hP1, hD1⟩ := hB
          rw [ht1] at hP1
          obtain ⟨hP, hD⟩ := va_join (wr := [(o1, .inl (g 1, 1, .inr (.inl (fun _ => 0))))]) (w1 := [((a 200), .inr (21, [.int 1, .ref (a 201), .ref (a 202), .ref (a 203), .ref (a 204), .ref (a 205), .ref (a 206), .int 0, .int 0, .int 0, .int 0, .ref (a 208), .ref (a 209), .ref (a 210), .ref (a 211), .ref (a 212), .int 4, .int 12, .int (-1), .int 0, .ref (g 200), .ref (a 213), .int 0, .int 97, .ref (a 214), .ref (a 215), .ref (a 207), .null, .int 0]))]) hP hD [0] [1] rfl rfl (by decide) (by decide) hk1 hFc hP1 hD1
          have hP : va_P D vwCl [(o1, .inl (g 1, 1, .inr (.inl (fun _ => 0)))), ((a 200), .inr (21, [.int 1, .ref (a 201), .ref (a 202), .ref (a 203), .ref (a 204), .ref (a 205), .ref (a 206), .int 0, .int 0, .int 0, .int 0, .ref (a 208), .ref (a 209), .ref (a 210), .ref (a 211), .ref (a 212), .int 4, .int 12, .int (-1), .int 0, .ref (g 200), .ref (a 213), .int 0, .int 97, .ref (a 214), .ref (a 215), .ref (a 207), .null, .int 0]))] H := hP
          have hD : va_D (va_A [] s.heap.size) [(o1, .inl (g 1, 1, .inr (.inl (fun _ => 0)))), ((a 200), .inr (21, [.int 1, .ref (a 201), .ref (a 202), .ref (a 203), .ref (a 204), .ref (a 205), .ref (a 206), .int 0, .int 0, .int 0, .int 0, .ref (a 208), .ref (a 209), .ref (a 210), .ref (a 211), .ref (a 212), .int 4, .int 12, .int (-1), .int 0, .ref (g 200), .ref (a 213), .int 0, .int 97, .ref (a 214), .ref (a 215), .ref (a 207), .null, .int 0]))] := hD
          refine lv_istore (lv' := [(7, .int 0), (6, .int 1), (0, .ref b), (1, .ref (a 0)), (2, .ref (a 200)), (3, .ref o1), (4, .ref o2), (5, .int 0)]) hx hb dL_law_3285 hl (by decide) rfl (fun ls hl => ?_)
          refine lv_aload_n hx hb dL_law_3287 rfl (lv_at hl 4 rfl) ?_
          have hPc : va_P D vwCl [((a 200), .inr (21, [.int 1, .ref (a 201), .ref (a 202), .ref (a 203), .ref (a 204), .ref (a 205), .ref (a 206), .int 0, .int 0, .int 0, .int 0, .ref (a 208), .ref (a 209), .ref (a 210), .ref (a 211), .ref (a 212), .int 4, .int 12, .int (-1), .int 0, .ref (g 200), .ref (a 213), .int 0, .int 97, .ref (a 214), .ref (a 215), .ref (a 207), .null, .int 0]))] _ := hP.sub (ws' := [((a 200), .inr (21, [.int 1, .ref (a 201), .ref (a 202), .ref (a 203), .ref (a 204), .ref (a 205), .ref (a 206), .int 0, .int 0, .int 0, .int 0, .ref (a 208), .ref (a 209), .ref (a 210), .ref (a 211), .ref (a 212), .int 4, .int 12, .int (-1), .int 0, .ref (g 200), .ref (a 213), .int 0, .int 97, .ref (a 214), .ref (a 215), .ref (a 207), .null, .int 0]))]) [1] rfl
          have hDc : va_D (fun q => z0 ≤ q) [((a 200), .inr (21, [.int 1, .ref (a 201), .ref (a 202), .ref (a 203), .ref (a 204), .ref (a 205), .ref (a 206), .int 0, .int 0, .int 0, .int 0, .ref (a 208), .ref (a 209), .ref (a 210), .ref (a 211), .ref (a 212), .int 4, .int 12, .int (-1), .int 0, .ref (g 200), .ref (a 213), .int 0, .int 97, .ref (a 214), .ref (a 215), .ref (a 207), .null, .int 0]))] := (hD.to hAz).pick (ws' := [((a 200), .inr (21, [.int 1, .ref (a 201), .ref (a 202), .ref (a 203), .ref (a 204), .ref (a 205), .ref (a 206), .int 0, .int 0, .int 0, .int 0, .ref (a 208), .ref (a 209), .ref (a 210), .ref (a 211), .ref (a 212), .int 4, .int 12, .int (-1), .int 0, .ref (g 200), .ref (a 213), .int 0, .int 97, .ref (a 214), .ref (a 215), .ref (a 207), .null, .int 0]))]) [1] (by decide) rfl
          have hFc := va_free (wc := [((a 200), .inr (21, [.int 1, .ref (a 201), .ref (a 202), .ref (a 203), .ref (a 204), .ref (a 205), .ref (a 206), .int 0, .int 0, .int 0, .int 0, .ref (a 208), .ref (a 209), .ref (a 210), .ref (a 211), .ref (a 212), .int 4, .int 12, .int (-1), .int 0, .ref (g 200), .ref (a 213), .int 0, .int 97, .ref (a 214), .ref (a 215), .ref (a 207), .null, .int 0]))]) hD hS hA [1] rfl
          refine va_calli (va_runV (As := []) (rest := []) ⟨hx, hb, hml, hown, ht⟩ (k_X15_thrown_v2 l D g z0 _ a) (cwV 0 ht (gV w_772 w_774 w_775 w_334 w_773) rfl rfl rfl (by decide +kernel) (le2 rfl rfl)) ⟨PP.blind, va_recv hK.1 hP (ci := 21) (q0 := 1) rfl rfl, PP.mk' hK hZ hz hAz hS hPc hDc⟩ rfl rfl hl.1 rfl (lv_room (Nat.le_of_ble_eq_true rfl)) dL_law_3288 (le2 rfl rfl)) hS (fun q _ h => hFc q h) hFc (fun r u t H locs ht1 hvm hw hB hz1 hk1 hS => ?_)
          obtain ⟨rfl, hw⟩ := hw
          obtain ⟨hP1, hD1⟩ := hB
          rw [ht1] at hP1
          obtain ⟨hP, hD⟩ := va_join (wr := [(o1, .inl (g 1, 1, .inr (.inl (fun _ => 0))))]) (w1 := [((a 200), .inr (21, [.int 1, .ref (a 201), .ref (a 202), .ref (a 203), .ref (a 204), .ref (a 205), .ref (a 206), .int 0, .int 0, .int 0, .int 0, .ref (a 208), .ref (a 209), .ref (a 210), .ref (a 211), .ref (a 212), .int 4, .int 12, .int (-1), .int 0, .ref (g 200), .ref (a 213), .int 0, .int 97, .ref (a 214), .ref (a 215), .ref (a 207), .null, .int 0]))]) hP hD [1] [0] rfl rfl (by decide) (by decide) hk1 hFc hP1 hD1
          have hP : va_P D vwCl [(o1, .inl (g 1, 1, .inr (.inl (fun _ => 0)))), ((a 200), .inr (21, [.int 1, .ref (a 201), .ref (a 202), .ref (a 203), .ref (a 204), .ref (a 205), .ref (a 206), .int 0, .int 0, .int 0, .int 0, .ref (a 208), .ref (a 209), .ref (a 210), .ref (a 211), .ref (a 212), .int 4, .int 12, .int (-1), .int 0, .ref (g 200), .ref (a 213), .int 0, .int 97, .ref (a 214), .ref (a 215), .ref (a 207), .null, .int 0]))] H := hP
          have hD : va_D (va_A [] s.heap.size) [(o1, .inl (g 1, 1, .inr (.inl (fun _ => 0)))), ((a 200), .inr (21, [.int 1, .ref (a 201), .ref (a 202), .ref (a 203), .ref (a 204), .ref (a 205), .ref (a 206), .int 0, .int 0, .int 0, .int 0, .ref (a 208), .ref (a 209), .ref (a 210), .ref (a 211), .ref (a 212), .int 4, .int 12, .int (-1), .int 0, .ref (g 200), .ref (a 213), .int 0, .int 97, .ref (a 214), .ref (a 215), .ref (a 207), .null, .int 0]))] := hD
          refine lv_iload hx hb dL_law_3291 (lv_at hl 1 rfl) ?_
          refine lv_icmp_eq (tgt := 3298) hx hb dL_law_3293 (by decide) (fun c_2687 => ?_) (fun c_2687 => ?_)
          · refine lv_iload hx hb dL_law_3298 (lv_at hl 1 rfl) ?_
            refine lv_if_ne (tgt := 3322) hx hb dL_law_3300 (by decide) (fun c_2688 => ?_) (fun c_2688 => ?_)
            · refine lv_goto (tgt := 4264) hx hb dL_law_3322 (by decide) ?_
              refine W.widen (k := 200 + 300) (n := 8000 + 2000) (Nat.le_of_ble_eq_true rfl) (Nat.le_of_ble_eq_true rfl) ?_
              exact kk _ _ _ hS (lv_sub hl [7, 2] rfl)
            · exact absurd c_2688 (by decide)
          · exact absurd c_2687 (by decide)
        · obtain ⟨c_2689, c_2690, c_2691, c_2692, c_2693⟩ := hw
          exact absurd c_2689 c_2526
        · obtain ⟨c_2694, c_2695, c_2696, c_2697, c_2698, c_2699⟩ := hw
          exact absurd c_2694 c_2526
        · obtain ⟨c_2700, c_2701, c_2702, c_2703, c_2704, c_2705, c_2706⟩ := hw
          exact absurd c_2700 c_2526
        · obtain ⟨c_2707, c_2708, c_2709, c_2710, c_2711, c_2712, c_2713, c_2714⟩ := hw
          exact absurd c_2707 c_2526
        · obtain ⟨c_2715, c_2716, c_2717, c_2718, c_2719⟩ := hw
          exact absurd c_2715 c_2525
        · obtain ⟨c_2720, c_2721, c_2722, c_2723, c_2724, c_2725⟩ := hw
          exact absurd c_2720 c_2525
        · obtain ⟨c_2726, c_2727, c_2728, c_2729, c_2730, c_2731, c_2732⟩ := hw
          exact absurd c_2726 c_2525
        · obtain ⟨c_2733, c_2734, c_2735, c_2736, c_2737, c_2738, c_2739, c_2740⟩ := hw
          exact absurd c_2733 c_2525
      · obtain ⟨rfl, rfl, hw⟩ := hw
        rcases hw with hw | hw | hw | hw | hw
        · obtain ⟨c_2741, c_2742, c_2743, c_2744, c_2745, c_2746, c_2747, c_2748⟩ := hw
          exact absurd (c_2527.symm.trans c_2741) (by decide)
        · obtain ⟨c_2749, c_2750, c_2751, c_2752, c_2753, c_2754, c_2755, c_2756, c_2757, c_2758⟩ := hw
          exact absurd (c_2527.symm.trans c_2749) (by decide)
        · obtain ⟨c_2759, c_2760, c_2761, c_2762, c_2763, c_2764, c_2765, c_2766, c_2767, c_2768, c_2769⟩ := hw
          exact (two_out (lo_nlt c_2768) (up_nlt c_2769) c_2536 c_2537).elim
        · obtain ⟨c_2770, c_2771, c_2772, c_2773, c_2774, c_2775, c_2776, c_2777⟩ := hw
          exact absurd c_2770 c_2526
        · obtain ⟨c_2778, c_2779, c_2780, c_2781, c_2782, c_2783, c_2784, c_2785⟩ := hw
          exact absurd c_2778 c_2525
    · obtain ⟨c_2786, c_2787, c_2788, c_2789, c_2790, c_2791, c_2792, c_2793, c_2794, c_2795, c_2796⟩ := hw
      obtain ⟨hP1, hD1⟩ := hB
      rw [ht1] at hP1
      obtain ⟨hP, hD⟩ := va_join (wr := [((a 200), f_m a g)]) (w1 := [(o1, .inl (g 1, 1, .inr (.inl (fun _ => 0))))]) hP hD [3, 0, 1] [2] rfl rfl (by decide) (by decide) hk1 hFc hP1 hD1
      have hP : va_P D vwCl [((a 200), f_m a g), (o1, .inl (g 1, 1, .inr (.inl (fun _ => 0))))] H := hP
      have hD : va_D (va_A [] s.heap.size) [((a 200), f_m a g), (o1, .inl (g 1, 1, .inr (.inl (fun _ => 0))))] := hD
      refine lv_istore (lv' := [(6, .int 1), (0, .ref b), (1, .ref (a 0)), (2, .ref (a 200)), (3, .ref o1), (4, .ref o2), (5, .int 0)]) hx hb dL_law_3248 hl (by decide) rfl (fun ls hl => ?_)
      refine lv_aload_n hx hb dL_law_3250 rfl (lv_at hl 3 rfl) ?_
      refine lv_aload_n hx hb dL_law_3251 rfl (lv_at hl 1 rfl) ?_
      refine lv_iload hx hb dL_law_3252 (lv_at hl 6 rfl) ?_
      refine lv_iconst (v := 1) hx hb dL_law_3254 (by decide) ?_
      refine lv_iadd hx hb dL_law_3255 ?_
      refine r_topi (v := 1) (by decide) ?_
      refine va_sld hx hb hX hbl hbA hS (by unfold vp_in; decide) dL_law_3256 ?_
      refine r_topi (v := xs 1) (congrArg xs (by decide)) ?_
      refine lv_i2c (v := ((xs 1).toUInt32 % 65536).toInt32) hx hb dL_law_3257 rfl ?_
      refine lv_aload_n hx hb dL_law_3258 rfl (lv_at hl 1 rfl) ?_
      refine lv_iload hx hb dL_law_3259 (lv_at hl 6 rfl) ?_
      refine lv_iconst (v := 2) hx hb dL_law_3261 (by decide) ?_
      refine lv_iadd hx hb dL_law_3262 ?_
      refine r_topi (v := 2) (by decide) ?_
      refine va_sld hx hb hX hbl hbA hS (by unfold vp_in; decide) dL_law_3263 ?_
      refine r_topi (v := xs 2) (congrArg xs (by decide)) ?_
      refine lv_aload_n hx hb dL_law_3264 rfl (lv_at hl 1 rfl) ?_
      refine lv_iload hx hb dL_law_3265 (lv_at hl 6 rfl) ?_
      refine lv_iconst (v := 3) hx hb dL_law_3267 (by decide) ?_
      refine lv_iadd hx hb dL_law_3268 ?_
      refine r_topi (v := 3) (by decide) ?_
      refine va_sld hx hb hX hbl hbA hS (by unfold vp_in; decide) dL_law_3269 ?_
      refine r_topi (v := xs 3) (congrArg xs (by decide)) ?_
      refine lv_aload_n hx hb dL_law_3270 rfl (lv_at hl 1 rfl) ?_
      refine lv_iload hx hb dL_law_3271 (lv_at hl 6 rfl) ?_
      refine lv_iconst (v := 4) hx hb dL_law_3273 (by decide) ?_
      refine lv_iadd hx hb dL_law_3274 ?_
      refine r_topi (v := 4) (by decide) ?_
      refine va_sld hx hb hX hbl hbA hS (by unfold vp_in; decide) dL_law_3275 ?_
      refine r_topi (v := xs 4) (congrArg xs (by decide)) ?_
      refine lv_aload_n hx hb dL_law_3276 rfl (lv_at hl 1 rfl) ?_
      refine lv_iload hx hb dL_law_3277 (lv_at hl 6 rfl) ?_
      refine lv_iconst (v := 5) hx hb dL_law_3279 (by decide) ?_
      refine lv_iadd hx hb dL_law_3280 ?_
      refine r_topi (v := 5) (by decide) ?_
      refine va_sld hx hb hX hbl hbA hS (by unfold vp_in; decide) dL_law_3281 ?_
      refine r_topi (v := xs 5) (congrArg xs (by decide)) ?_
      have hPc : va_P D vwCl [((a 200), f_m a g)] _ := hP.sub (ws' := [((a 200), f_m a g)]) [0] rfl
      have hDc : va_D (fun q => z0 ≤ q) [((a 200), f_m a g)] := (hD.to hAz).pick (ws' := [((a 200), f_m a g)]) [0] (by decide) rfl
      have hFc := va_free (wc := [((a 200), f_m a g)]) hD hS hA [0] rfl
      refine va_calli (va_runV (As := [.int (((xs 1).toUInt32 % 65536).toInt32), .int (xs 2), .int (xs 3), .int (xs 4), .int (xs 5)]) (rest := []) ⟨hx, hb, hml, hown, ht⟩ (k_X15_marchFinds l D g z0 _ a (((xs 1).toUInt32 % 65536).toInt32) (xs 2) (xs 3) (xs 4) (xs 5) (isC_i2c _)) (cwV 5 ht (gV w_1231 w_1233 w_1234 w_334 w_1232) rfl rfl rfl (by decide +kernel) (le2 rfl rfl)) ⟨PP.blind, va_recv hK.1 hP (ci := 21) (q0 := 0) rfl rfl, PP.mk' hK hZ hz hAz hS hPc hDc⟩ rfl rfl hl.1 rfl (lv_room (Nat.le_of_ble_eq_true rfl)) dL_law_3282 (le2 rfl rfl)) hS (fun q _ h => hFc q h) hFc (fun r u t H locs ht1 hvm hw hB hz1 hk1 hS => ?_)
      rcases hw with hw | hw
      · obtain ⟨rfl, rfl, hw⟩ := hw
        rcases hw with hw | hw | hw | hw | hw | hw | hw | hw | hw | hw | hw | hw | hw | hw | hw | hw | hw | hw | hw | hw | hw | hw | hw | hw | hw | hw | hw | hw | hw | hw | hw | hw
        · obtain ⟨c_2797, c_2798, c_2799, c_2800, c_2801⟩ := hw
          exact absurd c_2788 c_2799
        · obtain ⟨c_2802, c_2803, c_2804, c_2805, c_2806⟩ := hw
          exact absurd c_2788 c_2804
        · obtain ⟨c_2807, c_2808, c_2809, c_2810, c_2811⟩ := hw
          exact absurd c_2788 c_2809
        · obtain ⟨c_2812, c_2813, c_2814, c_2815⟩ := hw
          exact absurd (c_2788.symm.trans c_2812) (by decide)
        · obtain ⟨c_2816, c_2817, c_2818, c_2819, c_2820⟩ := hw
          exact absurd (c_2788.symm.trans c_2816) (by decide)
        · obtain ⟨c_2821, c_2822, c_2823, c_2824, c_2825, c_2826⟩ := hw
          exact absurd (c_2788.symm.trans c_2821) (by decide)
        · obtain ⟨c_2827, c_2828, c_2829, c_2830, c_2831, c_2832, c_2833⟩ := hw
          exact absurd (c_2788.symm.trans c_2827) (by decide)
        · obtain ⟨c_2834, c_2835, c_2836, c_2837, c_2838, c_2839, c_2840, c_2841⟩ := hw
          exact absurd (c_2788.symm.trans c_2834) (by decide)
        · obtain ⟨c_2842, c_2843, c_2844⟩ := hw
          exact absurd (c_2788.symm.trans c_2842) (by decide)
        · obtain ⟨c_2845, c_2846, c_2847, c_2848⟩ := hw
          exact absurd (c_2788.symm.trans c_2845) (by decide)
        · obtain ⟨c_2849, c_2850, c_2851, c_2852, c_2853⟩ := hw
          exact absurd (c_2788.symm.trans c_2849) (by decide)
        · obtain ⟨c_2854, c_2855, c_2856, c_2857, c_2858, c_2859⟩ := hw
          exact absurd (c_2788.symm.trans c_2854) (by decide)
        · obtain ⟨c_2860, c_2861, c_2862, c_2863, c_2864, c_2865, c_2866⟩ := hw
          exact absurd (c_2788.symm.trans c_2860) (by decide)
        · obtain ⟨c_2867, c_2868, c_2869, c_2870, c_2871, c_2872, c_2873, c_2874, c_2875⟩ := hw
          exact absurd (c_2788.symm.trans c_2867) (by decide)
        · obtain ⟨c_2876, c_2877, c_2878, c_2879, c_2880, c_2881, c_2882, c_2883, c_2884, c_2885⟩ := hw
          exact absurd (c_2788.symm.trans c_2876) (by decide)
        · obtain ⟨c_2886, c_2887⟩ := hw
          exact absurd c_2887 c_2789
        · obtain ⟨c_2888, c_2889, c_2890⟩ := hw
          exact absurd (Int.le_trans (lo_lt c_2890) (up_lt c_2790)) (by decide)
        · obtain ⟨c_2891, c_2892, c_2893, c_2894⟩ := hw
          exact absurd c_2894 c_2791
        · obtain ⟨c_2895, c_2896, c_2897, c_2898, c_2899⟩ := hw
          exact absurd (Int.le_trans (lo_lt c_2899) (up_nle c_2792)) (by decide)
        · obtain ⟨c_2900, c_2901, c_2902, c_2903, c_2904, c_2905⟩ := hw
          exact absurd c_2905 c_2793
        · obtain ⟨c_2906, c_2907, c_2908, c_2909, c_2910, c_2911, c_2912, c_2913⟩ := hw
          obtain ⟨hP1, hD1⟩ := hB
          rw [ht1] at hP1
          obtain ⟨hP, hD⟩ := va_join (wr := [(o1, .inl (g 1, 1, .inr (.inl (fun _ => 0))))]) (w1 := [((a 200), .inr (21, [.int 1, .ref (a 201), .ref (a 202), .ref (a 203), .ref (a 204), .ref (a 205), .ref (a 206), .int 0, .int 0, .int 0, .int 0, .ref (a 208), .ref (a 209), .ref (a 210), .ref (a 211), .ref (a 212), .int 4, .int 12, .int (-1), .int 0, .ref (g 200), .ref (a 213), .int 0, .int 97, .ref (a 214), .ref (a 215), .ref (a 207), .null, .int 0]))]) hP hD [0] [1] rfl rfl (by decide) (by decide) hk1 hFc hP1 hD1
          have hP : va_P D vwCl [(o1, .inl (g 1, 1, .inr (.inl (fun _ => 0)))), ((a 200), .inr (21, [.int 1, .ref (a 201), .ref (a 202), .ref (a 203), .ref (a 204), .ref (a 205), .ref (a 206), .int 0, .int 0, .int 0, .int 0, .ref (a 208), .ref (a 209), .ref (a 210), .ref (a 211), .ref (a 212), .int 4, .int 12, .int (-1), .int 0, .ref (g 200), .ref (a 213), .int 0, .int 97, .ref (a 214), .ref (a 215), .ref (a 207), .null, .int 0]))] H := hP
          have hD : va_D (va_A [] s.heap.size) [(o1, .inl (g 1, 1, .inr (.inl (fun _ => 0)))), ((a 200), .inr (21, [.int 1, .ref (a 201), .ref (a 202), .ref (a 203), .ref (a 204), .ref (a 205), .ref (a 206), .int 0, .int 0, .int 0, .int 0, .ref (a 208), .ref (a 209), .ref (a 210), .ref (a 211), .ref (a 212), .int 4, .int 12, .int (-1), .int 0, .ref (g 200), .ref (a 213), .int 0, .int 97, .ref (a 214), .ref (a 215), .ref (a 207), .null, .int 0]))] := hD
          refine lv_istore (lv' := [(7, .int 0), (6, .int 1), (0, .ref b), (1, .ref (a 0)), (2, .ref (a 200)), (3, .ref o1), (4, .ref o2), (5, .int 0)]) hx hb dL_law_3285 hl (by decide) rfl (fun ls hl => ?_)
          refine lv_aload_n hx hb dL_law_3287 rfl (lv_at hl 4 rfl) ?_
          have hPc : va_P D vwCl [((a 200), .inr (21, [.int 1, .ref (a 201), .ref (a 202), .ref (a 203), .ref (a 204), .ref (a 205), .ref (a 206), .int 0, .int 0, .int 0, .int 0, .ref (a 208), .ref (a 209), .ref (a 210), .ref (a 211), .ref (a 212), .int 4, .int 12, .int (-1), .int 0, .ref (g 200), .ref (a 213), .int 0, .int 97, .ref (a 214), .ref (a 215), .ref (a 207), .null, .int 0]))] _ := hP.sub (ws' := [((a 200), .inr (21, [.int 1, .ref (a 201), .ref (a 202), .ref (a 203), .ref (a 204), .ref (a 205), .ref (a 206), .int 0, .int 0, .int 0, .int 0, .ref (a 208), .ref (a 209), .ref (a 210), .ref (a 211), .ref (a 212), .int 4, .int 12, .int (-1), .int 0, .ref (g 200), .ref (a 213), .int 0, .int 97, .ref (a 214), .ref (a 215), .ref (a 207), .null, .int 0]))]) [1] rfl
          have hDc : va_D (fun q => z0 ≤ q) [((a 200), .inr (21, [.int 1, .ref (a 201), .ref (a 202), .ref (a 203), .ref (a 204), .ref (a 205), .ref (a 206), .int 0, .int 0, .int 0, .int 0, .ref (a 208), .ref (a 209), .ref (a 210), .ref (a 211), .ref (a 212), .int 4, .int 12, .int (-1), .int 0, .ref (g 200), .ref (a 213), .int 0, .int 97, .ref (a 214), .ref (a 215), .ref (a 207), .null, .int 0]))] := (hD.to hAz).pick (ws' := [((a 200), .inr (21, [.int 1, .ref (a 201), .ref (a 202), .ref (a 203), .ref (a 204), .ref (a 205), .ref (a 206), .int 0, .int 0, .int 0, .int 0, .ref (a 208), .ref (a 209), .ref (a 210), .ref (a 211), .ref (a 212), .int 4, .int 12, .int (-1), .int 0, .ref (g 200), .ref (a 213), .int 0, .int 97, .ref (a 214), .ref (a 215), .ref (a 207), .null, .int 0]))]) [1] (by decide) rfl
          have hFc := va_free (wc := [((a 200), .inr (21, [.int 1, .ref (a 201), .ref (a 202), .ref (a 203), .ref (a 204), .ref (a 205), .ref (a 206), .int 0, .int 0, .int 0, .int 0, .ref (a 208), .ref (a 209), .ref (a 210), .ref (a 211), .ref (a 212), .int 4, .int 12, .int (-1), .int 0, .ref (g 200), .ref (a 213), .int 0, .int 97, .ref (a 214), .ref (a 215), .ref (a 207), .null, .int 0]))]) hD hS hA [1] rfl
          refine va_calli (va_runV (As := []) (rest := []) ⟨hx, hb, hml, hown, ht⟩ (k_X15_thrown_v2 l D g z0 _ a) (cwV 0 ht (gV w_772 w_774 w_775 w_334 w_773) rfl rfl rfl (by decide +kernel) (le2 rfl rfl)) ⟨PP.blind, va_recv hK.1 hP (ci := 21) (q0 := 1) rfl rfl, PP.mk' hK hZ hz hAz hS hPc hDc⟩ rfl rfl hl.1 rfl (lv_room (Nat.le_of_ble_eq_true rfl)) dL_law_3288 (le2 rfl rfl)) hS (fun q _ h => hFc q h) hFc (fun r u t H locs ht1 hvm hw hB hz1 hk1 hS => ?_)
          obtain ⟨rfl, hw⟩ := hw
          obtain ⟨hP1, hD1⟩ := hB
          rw [ht1] at hP1
          obtain ⟨hP, hD⟩ := va_join (wr := [(o1, .inl (g 1, 1, .inr (.inl (fun _ => 0))))]) (w1 := [((a 200), .inr (21, [.int 1, .ref (a 201), .ref (a 202), .ref (a 203), .ref (a 204), .ref (a 205), .ref (a 206), .int 0, .int 0, .int 0, .int 0, .ref (a 208), .ref (a 209), .ref (a 210), .ref (a 211), .ref (a 212), .int 4, .int 12, .int (-1), .int 0, .ref (g 200), .ref (a 213), .int 0, .int 97, .ref (a 214), .ref (a 215), .ref (a 207), .null, .int 0]))]) hP hD [1] [0] rfl rfl (by decide) (by decide) hk1 hFc hP1 hD1
          have hP : va_P D vwCl [(o1, .inl (g 1, 1, .inr (.inl (fun _ => 0)))), ((a 200), .inr (21, [.int 1, .ref (a 201), .ref (a 202), .ref (a 203), .ref (a 204), .ref (a 205), .ref (a 206), .int 0, .int 0, .int 0, .int 0, .ref (a 208), .ref (a 209), .ref (a 210), .ref (a 211), .ref (a 212), .int 4, .int 12, .int (-1), .int 0, .ref (g 200), .ref (a 213), .int 0, .int 97, .ref (a 214), .ref (a 215), .ref (a 207), .null, .int 0]))] H := hP
          have hD : va_D (va_A [] s.heap.size) [(o1, .inl (g 1, 1, .inr (.inl (fun _ => 0)))), ((a 200), .inr (21, [.int 1, .ref (a 201), .ref (a 202), .ref (a 203), .ref (a 204), .ref (a 205), .ref (a 206), .int 0, .int 0, .int 0, .int 0, .ref (a 208), .ref (a 209), .ref (a 210), .ref (a 211), .ref (a 212), .int 4, .int 12, .int (-1), .int 0, .ref (g 200), .ref (a 213), .int 0, .int 97, .ref (a 214), .ref (a 215), .ref (a 207), .null, .int 0]))] := hD
          refine lv_iload hx hb dL_law_3291 (lv_at hl 1 rfl) ?_
          refine lv_icmp_eq (tgt := 3298) hx hb dL_law_3293 (by decide) (fun c_2914 => ?_) (fun c_2914 => ?_)
          · refine lv_iload hx hb dL_law_3298 (lv_at hl 1 rfl) ?_
            refine lv_if_ne (tgt := 3322) hx hb dL_law_3300 (by decide) (fun c_2915 => ?_) (fun c_2915 => ?_)
            · refine lv_goto (tgt := 4264) hx hb dL_law_3322 (by decide) ?_
              refine W.widen (k := 200 + 300) (n := 8000 + 2000) (Nat.le_of_ble_eq_true rfl) (Nat.le_of_ble_eq_true rfl) ?_
              exact kk _ _ _ hS (lv_sub hl [7, 2] rfl)
            · exact absurd c_2915 (by decide)
          · exact absurd c_2914 (by decide)
        · obtain ⟨c_2916, c_2917, c_2918, c_2919, c_2920, c_2921, c_2922, c_2923, c_2924⟩ := hw
          obtain ⟨hP1, hD1⟩ := hB
          rw [ht1] at hP1
          obtain ⟨hP, hD⟩ := va_join (wr := [(o1, .inl (g 1, 1, .inr (.inl (fun _ => 0))))]) (w1 := [((a 200), .inr (21, [.int 1, .ref (a 201), .ref (a 202), .ref (a 203), .ref (a 204), .ref (a 205), .ref (a 206), .int 0, .int 0, .int 0, .int 0, .ref (a 208), .ref (a 209), .ref (a 210), .ref (a 211), .ref (a 212), .int 4, .int 12, .int (-1), .int 0, .ref (g 200), .ref (a 213), .int 0, .int 97, .ref (a 214), .ref (a 215), .ref (a 207), .null, .int 0]))]) hP hD [0] [1] rfl rfl (by decide) (by decide) hk1 hFc hP1 hD1
          have hP : va_P D vwCl [(o1, .inl (g 1, 1, .inr (.inl (fun _ => 0)))), ((a 200), .inr (21, [.int 1, .ref (a 201), .ref (a 202), .ref (a 203), .ref (a 204), .ref (a 205), .ref (a 206), .int 0, .int 0, .int 0, .int 0, .ref (a 208), .ref (a 209), .ref (a 210), .ref (a 211), .ref (a 212), .int 4, .int 12, .int (-1), .int 0, .ref (g 200), .ref (a 213), .int 0, .int 97, .ref (a 214), .ref (a 215), .ref (a 207), .null, .int 0]))] H := hP
          have hD : va_D (va_A [] s.heap.size) [(o1, .inl (g 1, 1, .inr (.inl (fun _ => 0)))), ((a 200), .inr (21, [.int 1, .ref (a 201), .ref (a 202), .ref (a 203), .ref (a 204), .ref (a 205), .ref (a 206), .int 0, .int 0, .int 0, .int 0, .ref (a 208), .ref (a 209), .ref (a 210), .ref (a 211), .ref (a 212), .int 4, .int 12, .int (-1), .int 0, .ref (g 200), .ref (a 213), .int 0, .int 97, .ref (a 214), .ref (a 215), .ref (a 207), .null, .int 0]))] := hD
          refine lv_istore (lv' := [(7, .int 0), (6, .int 1), (0, .ref b), (1, .ref (a 0)), (2, .ref (a 200)), (3, .ref o1), (4, .ref o2), (5, .int 0)]) hx hb dL_law_3285 hl (by decide) rfl (fun ls hl => ?_)
          refine lv_aload_n hx hb dL_law_3287 rfl (lv_at hl 4 rfl) ?_
          have hPc : va_P D vwCl [((a 200), .inr (21, [.int 1, .ref (a 201), .ref (a 202), .ref (a 203), .ref (a 204), .ref (a 205), .ref (a 206), .int 0, .int 0, .int 0, .int 0, .ref (a 208), .ref (a 209), .ref (a 210), .ref (a 211), .ref (a 212), .int 4, .int 12, .int (-1), .int 0, .ref (g 200), .ref (a 213), .int 0, .int 97, .ref (a 214), .ref (a 215), .ref (a 207), .null, .int 0]))] _ := hP.sub (ws' := [((a 200), .inr (21, [.int 1, .ref (a 201), .ref (a 202), .ref (a 203), .ref (a 204), .ref (a 205), .ref (a 206), .int 0, .int 0, .int 0, .int 0, .ref (a 208), .ref (a 209), .ref (a 210), .ref (a 211), .ref (a 212), .int 4, .int 12, .int (-1), .int 0, .ref (g 200), .ref (a 213), .int 0, .int 97, .ref (a 214), .ref (a 215), .ref (a 207), .null, .int 0]))]) [1] rfl
          have hDc : va_D (fun q => z0 ≤ q) [((a 200), .inr (21, [.int 1, .ref (a 201), .ref (a 202), .ref (a 203), .ref (a 204), .ref (a 205), .ref (a 206), .int 0, .int 0, .int 0, .int 0, .ref (a 208), .ref (a 209), .ref (a 210), .ref (a 211), .ref (a 212), .int 4, .int 12, .int (-1), .int 0, .ref (g 200), .ref (a 213), .int 0, .int 97, .ref (a 214), .ref (a 215), .ref (a 207), .null, .int 0]))] := (hD.to hAz).pick (ws' := [((a 200), .inr (21, [.int 1, .ref (a 201), .ref (a 202), .ref (a 203), .ref (a 204), .ref (a 205), .ref (a 206), .int 0, .int 0, .int 0, .int 0, .ref (a 208), .ref (a 209), .ref (a 210), .ref (a 211), .ref (a 212), .int 4, .int 12, .int (-1), .int 0, .ref (g 200), .ref (a 213), .int 0, .int 97, .ref (a 214), .ref (a 215), .ref (a 207), .null, .int 0]))]) [1] (by decide) rfl
          have hFc := va_free (wc := [((a 200), .inr (21, [.int 1, .ref (a 201), .ref (a 202), .ref (a 203), .ref (a 204), .ref (a 205), .ref (a 206), .int 0, .int 0, .int 0, .int 0, .ref (a 208), .ref (a 209), .ref (a 210), .ref (a 211), .ref (a 212), .int 4, .int 12, .int (-1), .int 0, .ref (g 200), .ref (a 213), .int 0, .int 97, .ref (a 214), .ref (a 215), .ref (a 207), .null, .int 0]))]) hD hS hA [1] rfl
          refine va_calli (va_runV (As := []) (rest := []) ⟨hx, hb, hml, hown, ht⟩ (k_X15_thrown_v2 l D g z0 _ a) (cwV 0 ht (gV w_772 w_774 w_775 w_334 w_773) rfl rfl rfl (by decide +kernel) (le2 rfl rfl)) ⟨PP.blind, va_recv hK.1 hP (ci := 21) (q0 := 1) rfl rfl, PP.mk' hK hZ hz hAz hS hPc hDc⟩ rfl rfl hl.1 rfl (lv_room (Nat.le_of_ble_eq_true rfl)) dL_law_3288 (le2 rfl rfl)) hS (fun q _ h => hFc q h) hFc (fun r u t H locs ht1 hvm hw hB hz1 hk1 hS => ?_)
          obtain ⟨rfl, hw⟩ := hw
          obtain ⟨hP1, hD1⟩ := hB
          rw [ht1] at hP1
          obtain ⟨hP, hD⟩ := va_join (wr := [(o1, .inl (g 1, 1, .inr (.inl (fun _ => 0))))]) (w1 := [((a 200), .inr (21, [.int 1, .ref (a 201), .ref (a 202), .ref (a 203), .ref (a 204), .ref (a 205), .ref (a 206), .int 0, .int 0, .int 0, .int 0, .ref (a 208), .ref (a 209), .ref (a 210), .ref (a 211), .ref (a 212), .int 4, .int 12, .int (-1), .int 0, .ref (g 200), .ref (a 213), .int 0, .int 97, .ref (a 214), .ref (a 215), .ref (a 207), .null, .int 0]))]) hP hD [1] [0] rfl rfl (by decide) (by decide) hk1 hFc hP1 hD1
          have hP : va_P D vwCl [(o1, .inl (g 1, 1, .inr (.inl (fun _ => 0)))), ((a 200), .inr (21, [.int 1, .ref (a 201), .ref (a 202), .ref (a 203), .ref (a 204), .ref (a 205), .ref (a 206), .int 0, .int 0, .int 0, .int 0, .ref (a 208), .ref (a 209), .ref (a 210), .ref (a 211), .ref (a 212), .int 4, .int 12, .int (-1), .int 0, .ref (g 200), .ref (a 213), .int 0, .int 97, .ref (a 214), .ref (a 215), .ref (a 207), .null, .int 0]))] H := hP
          have hD : va_D (va_A [] s.heap.size) [(o1, .inl (g 1, 1, .inr (.inl (fun _ => 0)))), ((a 200), .inr (21, [.int 1, .ref (a 201), .ref (a 202), .ref (a 203), .ref (a 204), .ref (a 205), .ref (a 206), .int 0, .int 0, .int 0, .int 0, .ref (a 208), .ref (a 209), .ref (a 210), .ref (a 211), .ref (a 212), .int 4, .int 12, .int (-1), .int 0, .ref (g 200), .ref (a 213), .int 0, .int 97, .ref (a 214), .ref (a 215), .ref (a 207), .null, .int 0]))] := hD
          refine lv_iload hx hb dL_law_3291 (lv_at hl 1 rfl) ?_
          refine lv_icmp_eq (tgt := 3298) hx hb dL_law_3293 (by decide) (fun c_2925 => ?_) (fun c_2925 => ?_)
          · refine lv_iload hx hb dL_law_3298 (lv_at hl 1 rfl) ?_
            refine lv_if_ne (tgt := 3322) hx hb dL_law_3300 (by decide) (fun c_2926 => ?_) (fun c_2926 => ?_)
            · refine lv_goto (tgt := 4264) hx hb dL_law_3322 (by decide) ?_
              refine W.widen (k := 200 + 300) (n := 8000 + 2000) (Nat.le_of_ble_eq_true rfl) (Nat.le_of_ble_eq_true rfl) ?_
              exact kk _ _ _ hS (lv_sub hl [7, 2] rfl)
            · exact absurd c_2926 (by decide)
          · exact absurd c_2925 (by decide)
        · obtain ⟨c_2927, c_2928, c_2929, c_2930, c_2931, c_2932, c_2933, c_2934, c_2935, c_2936⟩ := hw
          exact (two_out (lo_nlt c_2934) (up_nlt c_2935) c_2795 c_2796).elim
        · obtain ⟨c_2937, c_2938, c_2939, c_2940, c_2941, c_2942, c_2943, c_2944, c_2945, c_2946, c_2947⟩ := hw
          exact (two_out (lo_nlt c_2944) (up_nlt c_2945) c_2795 c_2796).elim
        · obtain ⟨c_2948, c_2949, c_2950, c_2951, c_2952⟩ := hw
          exact absurd c_2948 c_2787
        · obtain ⟨c_2953, c_2954, c_2955, c_2956, c_2957, c_2958⟩ := hw
          exact absurd c_2953 c_2787
        · obtain ⟨c_2959, c_2960, c_2961, c_2962, c_2963, c_2964, c_2965⟩ := hw
          exact absurd c_2959 c_2787
        · obtain ⟨c_2966, c_2967, c_2968, c_2969, c_2970, c_2971, c_2972, c_2973⟩ := hw
          exact absurd c_2966 c_2787
        · obtain ⟨c_2974, c_2975, c_2976, c_2977, c_2978⟩ := hw
          exact absurd c_2974 c_2786
        · obtain ⟨c_2979, c_2980, c_2981, c_2982, c_2983, c_2984⟩ := hw
          exact absurd c_2979 c_2786
        · obtain ⟨c_2985, c_2986, c_2987, c_2988, c_2989, c_2990, c_2991⟩ := hw
          exact absurd c_2985 c_2786
        · obtain ⟨c_2992, c_2993, c_2994, c_2995, c_2996, c_2997, c_2998, c_2999⟩ := hw
          exact absurd c_2992 c_2786
      · obtain ⟨rfl, rfl, hw⟩ := hw
        rcases hw with hw | hw | hw | hw | hw
        · obtain ⟨c_3000, c_3001, c_3002, c_3003, c_3004, c_3005, c_3006, c_3007⟩ := hw
          exact absurd (c_2788.symm.trans c_3000) (by decide)
        · obtain ⟨c_3008, c_3009, c_3010, c_3011, c_3012, c_3013, c_3014, c_3015, c_3016, c_3017⟩ := hw
          exact absurd (c_2788.symm.trans c_3008) (by decide)
        · obtain ⟨c_3018, c_3019, c_3020, c_3021, c_3022, c_3023, c_3024, c_3025, c_3026, c_3027, c_3028⟩ := hw
          exact (two_out (lo_nlt c_3025) (up_nlt c_3026) c_2795 c_2796).elim
        · obtain ⟨c_3029, c_3030, c_3031, c_3032, c_3033, c_3034, c_3035, c_3036⟩ := hw
          exact absurd c_3029 c_2787
        · obtain ⟨c_3037, c_3038, c_3039, c_3040, c_3041, c_3042, c_3043, c_3044⟩ := hw
          exact absurd c_3037 c_2786
    · obtain ⟨c_3045, c_3046, c_3047, c_3048, c_3049, c_3050, c_3051, c_3052⟩ := hw
      obtain ⟨hP1, hD1⟩ := hB
      rw [ht1] at hP1
      obtain ⟨hP, hD⟩ := va_join (wr := [((a 200), f_m a g)]) (w1 := [(o1, .inl (g 1, 1, .inr (.inl (fun _ => 0))))]) hP hD [3, 0, 1] [2] rfl rfl (by decide) (by decide) hk1 hFc hP1 hD1
      have hP : va_P D vwCl [((a 200), f_m a g), (o1, .inl (g 1, 1, .inr (.inl (fun _ => 0))))] H := hP
      have hD : va_D (va_A [] s.heap.size) [((a 200), f_m a g), (o1, .inl (g 1, 1, .inr (.inl (fun _ => 0))))] := hD
      refine lv_istore (lv' := [(6, .int 1), (0, .ref b), (1, .ref (a 0)), (2, .ref (a 200)), (3, .ref o1), (4, .ref o2), (5, .int 0)]) hx hb dL_law_3248 hl (by decide) rfl (fun ls hl => ?_)
      refine lv_aload_n hx hb dL_law_3250 rfl (lv_at hl 3 rfl) ?_
      refine lv_aload_n hx hb dL_law_3251 rfl (lv_at hl 1 rfl) ?_
      refine lv_iload hx hb dL_law_3252 (lv_at hl 6 rfl) ?_
      refine lv_iconst (v := 1) hx hb dL_law_3254 (by decide) ?_
      refine lv_iadd hx hb dL_law_3255 ?_
      refine r_topi (v := 1) (by decide) ?_
      refine va_sld hx hb hX hbl hbA hS (by unfold vp_in; decide) dL_law_3256 ?_
      refine r_topi (v := xs 1) (congrArg xs (by decide)) ?_
      refine lv_i2c (v := ((xs 1).toUInt32 % 65536).toInt32) hx hb dL_law_3257 rfl ?_
      refine lv_aload_n hx hb dL_law_3258 rfl (lv_at hl 1 rfl) ?_
      refine lv_iload hx hb dL_law_3259 (lv_at hl 6 rfl) ?_
      refine lv_iconst (v := 2) hx hb dL_law_3261 (by decide) ?_
      refine lv_iadd hx hb dL_law_3262 ?_
      refine r_topi (v := 2) (by decide) ?_
      refine va_sld hx hb hX hbl hbA hS (by unfold vp_in; decide) dL_law_3263 ?_
      refine r_topi (v := xs 2) (congrArg xs (by decide)) ?_
      refine lv_aload_n hx hb dL_law_3264 rfl (lv_at hl 1 rfl) ?_
      refine lv_iload hx hb dL_law_3265 (lv_at hl 6 rfl) ?_
      refine lv_iconst (v := 3) hx hb dL_law_3267 (by decide) ?_
      refine lv_iadd hx hb dL_law_3268 ?_
      refine r_topi (v := 3) (by decide) ?_
      refine va_sld hx hb hX hbl hbA hS (by unfold vp_in; decide) dL_law_3269 ?_
      refine r_topi (v := xs 3) (congrArg xs (by decide)) ?_
      refine lv_aload_n hx hb dL_law_3270 rfl (lv_at hl 1 rfl) ?_
      refine lv_iload hx hb dL_law_3271 (lv_at hl 6 rfl) ?_
      refine lv_iconst (v := 4) hx hb dL_law_3273 (by decide) ?_
      refine lv_iadd hx hb dL_law_3274 ?_
      refine r_topi (v := 4) (by decide) ?_
      refine va_sld hx hb hX hbl hbA hS (by unfold vp_in; decide) dL_law_3275 ?_
      refine r_topi (v := xs 4) (congrArg xs (by decide)) ?_
      refine lv_aload_n hx hb dL_law_3276 rfl (lv_at hl 1 rfl) ?_
      refine lv_iload hx hb dL_law_3277 (lv_at hl 6 rfl) ?_
      refine lv_iconst (v := 5) hx hb dL_law_3279 (by decide) ?_
      refine lv_iadd hx hb dL_law_3280 ?_
      refine r_topi (v := 5) (by decide) ?_
      refine va_sld hx hb hX hbl hbA hS (by unfold vp_in; decide) dL_law_3281 ?_
      refine r_topi (v := xs 5) (congrArg xs (by decide)) ?_
      have hPc : va_P D vwCl [((a 200), f_m a g)] _ := hP.sub (ws' := [((a 200), f_m a g)]) [0] rfl
      have hDc : va_D (fun q => z0 ≤ q) [((a 200), f_m a g)] := (hD.to hAz).pick (ws' := [((a 200), f_m a g)]) [0] (by decide) rfl
      have hFc := va_free (wc := [((a 200), f_m a g)]) hD hS hA [0] rfl
      refine va_calli (va_runV (As := [.int (((xs 1).toUInt32 % 65536).toInt32), .int (xs 2), .int (xs 3), .int (xs 4), .int (xs 5)]) (rest := []) ⟨hx, hb, hml, hown, ht⟩ (k_X15_marchFinds l D g z0 _ a (((xs 1).toUInt32 % 65536).toInt32) (xs 2) (xs 3) (xs 4) (xs 5) (isC_i2c _)) (cwV 5 ht (gV w_1231 w_1233 w_1234 w_334 w_1232) rfl rfl rfl (by decide +kernel) (le2 rfl rfl)) ⟨PP.blind, va_recv hK.1 hP (ci := 21) (q0 := 0) rfl rfl, PP.mk' hK hZ hz hAz hS hPc hDc⟩ rfl rfl hl.1 rfl (lv_room (Nat.le_of_ble_eq_true rfl)) dL_law_3282 (le2 rfl rfl)) hS (fun q _ h => hFc q h) hFc (fun r u t H locs ht1 hvm hw hB hz1 hk1 hS => ?_)
      rcases hw with hw | hw
      · obtain ⟨rfl, rfl, hw⟩ := hw
        rcases hw with hw | hw | hw | hw | hw | hw | hw | hw | hw | hw | hw | hw | hw | hw | hw | hw | hw | hw | hw | hw | hw | hw | hw | hw | hw | hw | hw | hw | hw | hw | hw | hw
        · obtain ⟨c_3053, c_3054, c_3055, c_3056, c_3057⟩ := hw
          exact absurd c_3047 c_3055
        · obtain ⟨c_3058, c_3059, c_3060, c_3061, c_3062⟩ := hw
          exact absurd c_3047 c_3060
        · obtain ⟨c_3063, c_3064, c_3065, c_3066, c_3067⟩ := hw
          exact absurd c_3047 c_3065
        · obtain ⟨c_3068, c_3069, c_3070, c_3071⟩ := hw
          exact absurd (c_3047.symm.trans c_3068) (by decide)
        · obtain ⟨c_3072, c_3073, c_3074, c_3075, c_3076⟩ := hw
          exact absurd (c_3047.symm.trans c_3072) (by decide)
        · obtain ⟨c_3077, c_3078, c_3079, c_3080, c_3081, c_3082⟩ := hw
          exact absurd (c_3047.symm.trans c_3077) (by decide)
        · obtain ⟨c_3083, c_3084, c_3085, c_3086, c_3087, c_3088, c_3089⟩ := hw
          exact absurd (c_3047.symm.trans c_3083) (by decide)
        · obtain ⟨c_3090, c_3091, c_3092, c_3093, c_3094, c_3095, c_3096, c_3097⟩ := hw
          exact absurd (c_3047.symm.trans c_3090) (by decide)
        · obtain ⟨c_3098, c_3099, c_3100⟩ := hw
          exact absurd (c_3047.symm.trans c_3098) (by decide)
        · obtain ⟨c_3101, c_3102, c_3103, c_3104⟩ := hw
          exact absurd (c_3047.symm.trans c_3101) (by decide)
        · obtain ⟨c_3105, c_3106, c_3107, c_3108, c_3109⟩ := hw
          exact absurd (c_3047.symm.trans c_3105) (by decide)
        · obtain ⟨c_3110, c_3111, c_3112, c_3113, c_3114, c_3115⟩ := hw
          exact absurd (c_3047.symm.trans c_3110) (by decide)
        · obtain ⟨c_3116, c_3117, c_3118, c_3119, c_3120, c_3121, c_3122⟩ := hw
          exact absurd (c_3047.symm.trans c_3116) (by decide)
        · obtain ⟨c_3123, c_3124, c_3125, c_3126, c_3127, c_3128, c_3129, c_3130, c_3131⟩ := hw
          exact absurd (c_3047.symm.trans c_3123) (by decide)
        · obtain ⟨c_3132, c_3133, c_3134, c_3135, c_3136, c_3137, c_3138, c_3139, c_3140, c_3141⟩ := hw
          exact absurd (c_3047.symm.trans c_3132) (by decide)
        · obtain ⟨c_3142, c_3143⟩ := hw
          exact absurd c_3143 c_3048
        · obtain ⟨c_3144, c_3145, c_3146⟩ := hw
          exact absurd (Int.le_trans (lo_lt c_3146) (up_lt c_3049)) (by decide)
        · obtain ⟨c_3147, c_3148, c_3149, c_3150⟩ := hw
          exact absurd c_3150 c_3050
        · obtain ⟨c_3151, c_3152, c_3153, c_3154, c_3155⟩ := hw
          exact absurd (Int.le_trans (lo_lt c_3155) (up_nle c_3051)) (by decide)
        · obtain ⟨c_3156, c_3157, c_3158, c_3159, c_3160, c_3161⟩ := hw
          obtain ⟨hP1, hD1⟩ := hB
          rw [ht1] at hP1
          obtain ⟨hP, hD⟩ := va_join (wr := [(o1, .inl (g 1, 1, .inr (.inl (fun _ => 0))))]) (w1 := [((a 200), .inr (21, [.int 1, .ref (a 201), .ref (a 202), .ref (a 203), .ref (a 204), .ref (a 205), .ref (a 206), .int 0, .int 0, .int 0, .int 0, .ref (a 208), .ref (a 209), .ref (a 210), .ref (a 211), .ref (a 212), .int 4, .int 12, .int (-1), .int 0, .ref (g 200), .ref (a 213), .int 0, .int 97, .ref (a 214), .ref (a 215), .ref (a 207), .null, .int 0]))]) hP hD [0] [1] rfl rfl (by decide) (by decide) hk1 hFc hP1 hD1
          have hP : va_P D vwCl [(o1, .inl (g 1, 1, .inr (.inl (fun _ => 0)))), ((a 200), .inr (21, [.int 1, .ref (a 201), .ref (a 202), .ref (a 203), .ref (a 204), .ref (a 205), .ref (a 206), .int 0, .int 0, .int 0, .int 0, .ref (a 208), .ref (a 209), .ref (a 210), .ref (a 211), .ref (a 212), .int 4, .int 12, .int (-1), .int 0, .ref (g 200), .ref (a 213), .int 0, .int 97, .ref (a 214), .ref (a 215), .ref (a 207), .null, .int 0]))] H := hP
          have hD : va_D (va_A [] s.heap.size) [(o1, .inl (g 1, 1, .inr (.inl (fun _ => 0)))), ((a 200), .inr (21, [.int 1, .ref (a 201), .ref (a 202), .ref (a 203), .ref (a 204), .ref (a 205), .ref (a 206), .int 0, .int 0, .int 0, .int 0, .ref (a 208), .ref (a 209), .ref (a 210), .ref (a 211), .ref (a 212), .int 4, .int 12, .int (-1), .int 0, .ref (g 200), .ref (a 213), .int 0, .int 97, .ref (a 214), .ref (a 215), .ref (a 207), .null, .int 0]))] := hD
          refine lv_istore (lv' := [(7, .int 0), (6, .int 1), (0, .ref b), (1, .ref (a 0)), (2, .ref (a 200)), (3, .ref o1), (4, .ref o2), (5, .int 0)]) hx hb dL_law_3285 hl (by decide) rfl (fun ls hl => ?_)
          refine lv_aload_n hx hb dL_law_3287 rfl (lv_at hl 4 rfl) ?_
          have hPc : va_P D vwCl [((a 200), .inr (21, [.int 1, .ref (a 201), .ref (a 202), .ref (a 203), .ref (a 204), .ref (a 205), .ref (a 206), .int 0, .int 0, .int 0, .int 0, .ref (a 208), .ref (a 209), .ref (a 210), .ref (a 211), .ref (a 212), .int 4, .int 12, .int (-1), .int 0, .ref (g 200), .ref (a 213), .int 0, .int 97, .ref (a 214), .ref (a 215), .ref (a 207), .null, .int 0]))] _ := hP.sub (ws' := [((a 200), .inr (21, [.int 1, .ref (a 201), .ref (a 202), .ref (a 203), .ref (a 204), .ref (a 205), .ref (a 206), .int 0, .int 0, .int 0, .int 0, .ref (a 208), .ref (a 209), .ref (a 210), .ref (a 211), .ref (a 212), .int 4, .int 12, .int (-1), .int 0, .ref (g 200), .ref (a 213), .int 0, .int 97, .ref (a 214), .ref (a 215), .ref (a 207), .null, .int 0]))]) [1] rfl
          have hDc : va_D (fun q => z0 ≤ q) [((a 200), .inr (21, [.int 1, .ref (a 201), .ref (a 202), .ref (a 203), .ref (a 204), .ref (a 205), .ref (a 206), .int 0, .int 0, .int 0, .int 0, .ref (a 208), .ref (a 209), .ref (a 210), .ref (a 211), .ref (a 212), .int 4, .int 12, .int (-1), .int 0, .ref (g 200), .ref (a 213), .int 0, .int 97, .ref (a 214), .ref (a 215), .ref (a 207), .null, .int 0]))] := (hD.to hAz).pick (ws' := [((a 200), .inr (21, [.int 1, .ref (a 201), .ref (a 202), .ref (a 203), .ref (a 204), .ref (a 205), .ref (a 206), .int 0, .int 0, .int 0, .int 0, .ref (a 208), .ref (a 209), .ref (a 210), .ref (a 211), .ref (a 212), .int 4, .int 12, .int (-1), .int 0, .ref (g 200), .ref (a 213), .int 0, .int 97, .ref (a 214), .ref (a 215), .ref (a 207), .null, .int 0]))]) [1] (by decide) rfl
          have hFc := va_free (wc := [((a 200), .inr (21, [.int 1, .ref (a 201), .ref (a 202), .ref (a 203), .ref (a 204), .ref (a 205), .ref (a 206), .int 0, .int 0, .int 0, .int 0, .ref (a 208), .ref (a 209), .ref (a 210), .ref (a 211), .ref (a 212), .int 4, .int 12, .int (-1), .int 0, .ref (g 200), .ref (a 213), .int 0, .int 97, .ref (a 214), .ref (a 215), .ref (a 207), .null, .int 0]))]) hD hS hA [1] rfl
          refine va_calli (va_runV (As := []) (rest := []) ⟨hx, hb, hml, hown, ht⟩ (k_X15_thrown_v2 l D g z0 _ a) (cwV 0 ht (gV w_772 w_774 w_775 w_334 w_773) rfl rfl rfl (by decide +kernel) (le2 rfl rfl)) ⟨PP.blind, va_recv hK.1 hP (ci := 21) (q0 := 1) rfl rfl, PP.mk' hK hZ hz hAz hS hPc hDc⟩ rfl rfl hl.1 rfl (lv_room (Nat.le_of_ble_eq_true rfl)) dL_law_3288 (le2 rfl rfl)) hS (fun q _ h => hFc q h) hFc (fun r u t H locs ht1 hvm hw hB hz1 hk1 hS => ?_)
          obtain ⟨rfl, hw⟩ := hw
          obtain ⟨hP1, hD1⟩ := hB
          rw [ht1] at hP1
          obtain ⟨hP, hD⟩ := va_join (wr := [(o1, .inl (g 1, 1, .inr (.inl (fun _ => 0))))]) (w1 := [((a 200), .inr (21, [.int 1, .ref (a 201), .ref (a 202), .ref (a 203), .ref (a 204), .ref (a 205), .ref (a 206), .int 0, .int 0, .int 0, .int 0, .ref (a 208), .ref (a 209), .ref (a 210), .ref (a 211), .ref (a 212), .int 4, .int 12, .int (-1), .int 0, .ref (g 200), .ref (a 213), .int 0, .int 97, .ref (a 214), .ref (a 215), .ref (a 207), .null, .int 0]))]) hP hD [1] [0] rfl rfl (by decide) (by decide) hk1 hFc hP1 hD1
          have hP : va_P D vwCl [(o1, .inl (g 1, 1, .inr (.inl (fun _ => 0)))), ((a 200), .inr (21, [.int 1, .ref (a 201), .ref (a 202), .ref (a 203), .ref (a 204), .ref (a 205), .ref (a 206), .int 0, .int 0, .int 0, .int 0, .ref (a 208), .ref (a 209), .ref (a 210), .ref (a 211), .ref (a 212), .int 4, .int 12, .int (-1), .int 0, .ref (g 200), .ref (a 213), .int 0, .int 97, .ref (a 214), .ref (a 215), .ref (a 207), .null, .int 0]))] H := hP
          have hD : va_D (va_A [] s.heap.size) [(o1, .inl (g 1, 1, .inr (.inl (fun _ => 0)))), ((a 200), .inr (21, [.int 1, .ref (a 201), .ref (a 202), .ref (a 203), .ref (a 204), .ref (a 205), .ref (a 206), .int 0, .int 0, .int 0, .int 0, .ref (a 208), .ref (a 209), .ref (a 210), .ref (a 211), .ref (a 212), .int 4, .int 12, .int (-1), .int 0, .ref (g 200), .ref (a 213), .int 0, .int 97, .ref (a 214), .ref (a 215), .ref (a 207), .null, .int 0]))] := hD
          refine lv_iload hx hb dL_law_3291 (lv_at hl 1 rfl) ?_
          refine lv_icmp_eq (tgt := 3298) hx hb dL_law_3293 (by decide) (fun c_3162 => ?_) (fun c_3162 => ?_)
          · refine lv_iload hx hb dL_law_3298 (lv_at hl 1 rfl) ?_
            refine lv_if_ne (tgt := 3322) hx hb dL_law_3300 (by decide) (fun c_3163 => ?_) (fun c_3163 => ?_)
            · refine lv_goto (tgt := 4264) hx hb dL_law_3322 (by decide) ?_
              refine W.widen (k := 200 + 300) (n := 8000 + 2000) (Nat.le_of_ble_eq_true rfl) (Nat.le_of_ble_eq_true rfl) ?_
              exact kk _ _ _ hS (lv_sub hl [7, 2] rfl)
            · exact absurd c_3163 (by decide)
          · exact absurd c_3162 (by decide)
        · obtain ⟨c_3164, c_3165, c_3166, c_3167, c_3168, c_3169, c_3170, c_3171⟩ := hw
          exact absurd c_3052 c_3169
        · obtain ⟨c_3172, c_3173, c_3174, c_3175, c_3176, c_3177, c_3178, c_3179, c_3180⟩ := hw
          exact absurd c_3052 c_3177
        · obtain ⟨c_3181, c_3182, c_3183, c_3184, c_3185, c_3186, c_3187, c_3188, c_3189, c_3190⟩ := hw
          exact absurd c_3052 c_3186
        · obtain ⟨c_3191, c_3192, c_3193, c_3194, c_3195, c_3196, c_3197, c_3198, c_3199, c_3200, c_3201⟩ := hw
          exact absurd c_3052 c_3196
        · obtain ⟨c_3202, c_3203, c_3204, c_3205, c_3206⟩ := hw
          exact absurd c_3202 c_3046
        · obtain ⟨c_3207, c_3208, c_3209, c_3210, c_3211, c_3212⟩ := hw
          exact absurd c_3207 c_3046
        · obtain ⟨c_3213, c_3214, c_3215, c_3216, c_3217, c_3218, c_3219⟩ := hw
          exact absurd c_3213 c_3046
        · obtain ⟨c_3220, c_3221, c_3222, c_3223, c_3224, c_3225, c_3226, c_3227⟩ := hw
          exact absurd c_3220 c_3046
        · obtain ⟨c_3228, c_3229, c_3230, c_3231, c_3232⟩ := hw
          exact absurd c_3228 c_3045
        · obtain ⟨c_3233, c_3234, c_3235, c_3236, c_3237, c_3238⟩ := hw
          exact absurd c_3233 c_3045
        · obtain ⟨c_3239, c_3240, c_3241, c_3242, c_3243, c_3244, c_3245⟩ := hw
          exact absurd c_3239 c_3045
        · obtain ⟨c_3246, c_3247, c_3248, c_3249, c_3250, c_3251, c_3252, c_3253⟩ := hw
          exact absurd c_3246 c_3045
      · obtain ⟨rfl, rfl, hw⟩ := hw
        rcases hw with hw | hw | hw | hw | hw
        · obtain ⟨c_3254, c_3255, c_3256, c_3257, c_3258, c_3259, c_3260, c_3261⟩ := hw
          exact absurd (c_3047.symm.trans c_3254) (by decide)
        · obtain ⟨c_3262, c_3263, c_3264, c_3265, c_3266, c_3267, c_3268, c_3269, c_3270, c_3271⟩ := hw
          exact absurd (c_3047.symm.trans c_3262) (by decide)
        · obtain ⟨c_3272, c_3273, c_3274, c_3275, c_3276, c_3277, c_3278, c_3279, c_3280, c_3281, c_3282⟩ := hw
          exact absurd c_3052 c_3277
        · obtain ⟨c_3283, c_3284, c_3285, c_3286, c_3287, c_3288, c_3289, c_3290⟩ := hw
          exact absurd c_3283 c_3046
        · obtain ⟨c_3291, c_3292, c_3293, c_3294, c_3295, c_3296, c_3297, c_3298⟩ := hw
          exact absurd c_3291 c_3045
    · obtain ⟨c_3299, c_3300, c_3301, c_3302, c_3303⟩ := hw
      obtain ⟨hP1, hD1⟩ := hB
      rw [ht1] at hP1
      obtain ⟨hP, hD⟩ := va_join (wr := [((a 200), f_m a g)]) (w1 := [(o1, .inl (g 1, 1, .inr (.inl (fun _ => 0))))]) hP hD [3, 0, 1] [2] rfl rfl (by decide) (by decide) hk1 hFc hP1 hD1
      have hP : va_P D vwCl [((a 200), f_m a g), (o1, .inl (g 1, 1, .inr (.inl (fun _ => 0))))] H := hP
      have hD : va_D (va_A [] s.heap.size) [((a 200), f_m a g), (o1, .inl (g 1, 1, .inr (.inl (fun _ => 0))))] := hD
      refine lv_istore (lv' := [(6, .int 1), (0, .ref b), (1, .ref (a 0)), (2, .ref (a 200)), (3, .ref o1), (4, .ref o2), (5, .int 0)]) hx hb dL_law_3248 hl (by decide) rfl (fun ls hl => ?_)
      refine lv_aload_n hx hb dL_law_3250 rfl (lv_at hl 3 rfl) ?_
      refine lv_aload_n hx hb dL_law_3251 rfl (lv_at hl 1 rfl) ?_
      refine lv_iload hx hb dL_law_3252 (lv_at hl 6 rfl) ?_
      refine lv_iconst (v := 1) hx hb dL_law_3254 (by decide) ?_
      refine lv_iadd hx hb dL_law_3255 ?_
      refine r_topi (v := 1) (by decide) ?_
      refine va_sld hx hb hX hbl hbA hS (by unfold vp_in; decide) dL_law_3256 ?_
      refine r_topi (v := xs 1) (congrArg xs (by decide)) ?_
      refine lv_i2c (v := ((xs 1).toUInt32 % 65536).toInt32) hx hb dL_law_3257 rfl ?_
      refine lv_aload_n hx hb dL_law_3258 rfl (lv_at hl 1 rfl) ?_
      refine lv_iload hx hb dL_law_3259 (lv_at hl 6 rfl) ?_
      refine lv_iconst (v := 2) hx hb dL_law_3261 (by decide) ?_
      refine lv_iadd hx hb dL_law_3262 ?_
      refine r_topi (v := 2) (by decide) ?_
      refine va_sld hx hb hX hbl hbA hS (by unfold vp_in; decide) dL_law_3263 ?_
      refine r_topi (v := xs 2) (congrArg xs (by decide)) ?_
      refine lv_aload_n hx hb dL_law_3264 rfl (lv_at hl 1 rfl) ?_
      refine lv_iload hx hb dL_law_3265 (lv_at hl 6 rfl) ?_
      refine lv_iconst (v := 3) hx hb dL_law_3267 (by decide) ?_
      refine lv_iadd hx hb dL_law_3268 ?_
      refine r_topi (v := 3) (by decide) ?_
      refine va_sld hx hb hX hbl hbA hS (by unfold vp_in; decide) dL_law_3269 ?_
      refine r_topi (v := xs 3) (congrArg xs (by decide)) ?_
      refine lv_aload_n hx hb dL_law_3270 rfl (lv_at hl 1 rfl) ?_
      refine lv_iload hx hb dL_law_3271 (lv_at hl 6 rfl) ?_
      refine lv_iconst (v := 4) hx hb dL_law_3273 (by decide) ?_
      refine lv_iadd hx hb dL_law_3274 ?_
      refine r_topi (v := 4) (by decide) ?_
      refine va_sld hx hb hX hbl hbA hS (by unfold vp_in; decide) dL_law_3275 ?_
      refine r_topi (v := xs 4) (congrArg xs (by decide)) ?_
      refine lv_aload_n hx hb dL_law_3276 rfl (lv_at hl 1 rfl) ?_
      refine lv_iload hx hb dL_law_3277 (lv_at hl 6 rfl) ?_
      refine lv_iconst (v := 5) hx hb dL_law_3279 (by decide) ?_
      refine lv_iadd hx hb dL_law_3280 ?_
      refine r_topi (v := 5) (by decide) ?_
      refine va_sld hx hb hX hbl hbA hS (by unfold vp_in; decide) dL_law_3281 ?_
      refine r_topi (v := xs 5) (congrArg xs (by decide)) ?_
      have hPc : va_P D vwCl [((a 200), f_m a g)] _ := hP.sub (ws' := [((a 200), f_m a g)]) [0] rfl
      have hDc : va_D (fun q => z0 ≤ q) [((a 200), f_m a g)] := (hD.to hAz).pick (ws' := [((a 200), f_m a g)]) [0] (by decide) rfl
      have hFc := va_free (wc := [((a 200), f_m a g)]) hD hS hA [0] rfl
      refine va_calli (va_runV (As := [.int (((xs 1).toUInt32 % 65536).toInt32), .int (xs 2), .int (xs 3), .int (xs 4), .int (xs 5)]) (rest := []) ⟨hx, hb, hml, hown, ht⟩ (k_X15_marchFinds l D g z0 _ a (((xs 1).toUInt32 % 65536).toInt32) (xs 2) (xs 3) (xs 4) (xs 5) (isC_i2c _)) (cwV 5 ht (gV w_1231 w_1233 w_1234 w_334 w_1232) rfl rfl rfl (by decide +kernel) (le2 rfl rfl)) ⟨PP.blind, va_recv hK.1 hP (ci := 21) (q0 := 0) rfl rfl, PP.mk' hK hZ hz hAz hS hPc hDc⟩ rfl rfl hl.1 rfl (lv_room (Nat.le_of_ble_eq_true rfl)) dL_law_3282 (le2 rfl rfl)) hS (fun q _ h => hFc q h) hFc (fun r u t H locs ht1 hvm hw hB hz1 hk1 hS => ?_)
      rcases hw with hw | hw
      · obtain ⟨rfl, rfl, hw⟩ := hw
        rcases hw with hw | hw | hw | hw | hw | hw | hw | hw | hw | hw | hw | hw | hw | hw | hw | hw | hw | hw | hw | hw | hw | hw | hw | hw | hw | hw | hw | hw | hw | hw | hw | hw
        · obtain ⟨c_3304, c_3305, c_3306, c_3307, c_3308⟩ := hw
          exact absurd c_3301 c_3306
        · obtain ⟨c_3309, c_3310, c_3311, c_3312, c_3313⟩ := hw
          exact absurd c_3301 c_3311
        · obtain ⟨c_3314, c_3315, c_3316, c_3317, c_3318⟩ := hw
          exact absurd c_3301 c_3316
        · obtain ⟨c_3319, c_3320, c_3321, c_3322⟩ := hw
          exact absurd (c_3301.symm.trans c_3319) (by decide)
        · obtain ⟨c_3323, c_3324, c_3325, c_3326, c_3327⟩ := hw
          exact absurd (c_3301.symm.trans c_3323) (by decide)
        · obtain ⟨c_3328, c_3329, c_3330, c_3331, c_3332, c_3333⟩ := hw
          exact absurd (c_3301.symm.trans c_3328) (by decide)
        · obtain ⟨c_3334, c_3335, c_3336, c_3337, c_3338, c_3339, c_3340⟩ := hw
          exact absurd (c_3301.symm.trans c_3334) (by decide)
        · obtain ⟨c_3341, c_3342, c_3343, c_3344, c_3345, c_3346, c_3347, c_3348⟩ := hw
          exact absurd (c_3301.symm.trans c_3341) (by decide)
        · obtain ⟨c_3349, c_3350, c_3351⟩ := hw
          exact absurd (c_3301.symm.trans c_3349) (by decide)
        · obtain ⟨c_3352, c_3353, c_3354, c_3355⟩ := hw
          exact absurd (c_3301.symm.trans c_3352) (by decide)
        · obtain ⟨c_3356, c_3357, c_3358, c_3359, c_3360⟩ := hw
          exact absurd (c_3301.symm.trans c_3356) (by decide)
        · obtain ⟨c_3361, c_3362, c_3363, c_3364, c_3365, c_3366⟩ := hw
          exact absurd (c_3301.symm.trans c_3361) (by decide)
        · obtain ⟨c_3367, c_3368, c_3369, c_3370, c_3371, c_3372, c_3373⟩ := hw
          exact absurd (c_3301.symm.trans c_3367) (by decide)
        · obtain ⟨c_3374, c_3375, c_3376, c_3377, c_3378, c_3379, c_3380, c_3381, c_3382⟩ := hw
          exact absurd (c_3301.symm.trans c_3374) (by decide)
        · obtain ⟨c_3383, c_3384, c_3385, c_3386, c_3387, c_3388, c_3389, c_3390, c_3391, c_3392⟩ := hw
          exact absurd (c_3301.symm.trans c_3383) (by decide)
        · obtain ⟨c_3393, c_3394⟩ := hw
          exact absurd c_3394 c_3302
        · obtain ⟨c_3395, c_3396, c_3397⟩ := hw
          obtain ⟨hP1, hD1⟩ := hB
          rw [ht1] at hP1
          obtain ⟨hP, hD⟩ := va_join (wr := [(o1, .inl (g 1, 1, .inr (.inl (fun _ => 0))))]) (w1 := [((a 200), .inr (21, [.int 1, .ref (a 201), .ref (a 202), .ref (a 203), .ref (a 204), .ref (a 205), .ref (a 206), .int 0, .int 0, .int 0, .int 0, .ref (a 208), .ref (a 209), .ref (a 210), .ref (a 211), .ref (a 212), .int 4, .int 12, .int (-1), .int 0, .ref (g 200), .ref (a 213), .int 0, .int 97, .ref (a 214), .ref (a 215), .ref (a 207), .null, .int 0]))]) hP hD [0] [1] rfl rfl (by decide) (by decide) hk1 hFc hP1 hD1
          have hP : va_P D vwCl [(o1, .inl (g 1, 1, .inr (.inl (fun _ => 0)))), ((a 200), .inr (21, [.int 1, .ref (a 201), .ref (a 202), .ref (a 203), .ref (a 204), .ref (a 205), .ref (a 206), .int 0, .int 0, .int 0, .int 0, .ref (a 208), .ref (a 209), .ref (a 210), .ref (a 211), .ref (a 212), .int 4, .int 12, .int (-1), .int 0, .ref (g 200), .ref (a 213), .int 0, .int 97, .ref (a 214), .ref (a 215), .ref (a 207), .null, .int 0]))] H := hP
          have hD : va_D (va_A [] s.heap.size) [(o1, .inl (g 1, 1, .inr (.inl (fun _ => 0)))), ((a 200), .inr (21, [.int 1, .ref (a 201), .ref (a 202), .ref (a 203), .ref (a 204), .ref (a 205), .ref (a 206), .int 0, .int 0, .int 0, .int 0, .ref (a 208), .ref (a 209), .ref (a 210), .ref (a 211), .ref (a 212), .int 4, .int 12, .int (-1), .int 0, .ref (g 200), .ref (a 213), .int 0, .int 97, .ref (a 214), .ref (a 215), .ref (a 207), .null, .int 0]))] := hD
          refine lv_istore (lv' := [(7, .int 0), (6, .int 1), (0, .ref b), (1, .ref (a 0)), (2, .ref (a 200)), (3, .ref o1), (4, .ref o2), (5, .int 0)]) hx hb dL_law_3285 hl (by decide) rfl (fun ls hl => ?_)
          refine lv_aload_n hx hb dL_law_3287 rfl (lv_at hl 4 rfl) ?_
          have hPc : va_P D vwCl [((a 200), .inr (21, [.int 1, .ref (a 201), .ref (a 202), .ref (a 203), .ref (a 204), .ref (a 205), .ref (a 206), .int 0, .int 0, .int 0, .int 0, .ref (a 208), .ref (a 209), .ref (a 210), .ref (a 211), .ref (a 212), .int 4, .int 12, .int (-1), .int 0, .ref (g 200), .ref (a 213), .int 0, .int 97, .ref (a 214), .ref (a 215), .ref (a 207), .null, .int 0]))] _ := hP.sub (ws' := [((a 200), .inr (21, [.int 1, .ref (a 201), .ref (a 202), .ref (a 203), .ref (a 204), .ref (a 205), .ref (a 206), .int 0, .int 0, .int 0, .int 0, .ref (a 208), .ref (a 209), .ref (a 210), .ref (a 211), .ref (a 212), .int 4, .int 12, .int (-1), .int 0, .ref (g 200), .ref (a 213), .int 0, .int 97, .ref (a 214), .ref (a 215), .ref (a 207), .null, .int 0]))]) [1] rfl
          have hDc : va_D (fun q => z0 ≤ q) [((a 200), .inr (21, [.int 1, .ref (a 201), .ref (a 202), .ref (a 203), .ref (a 204), .ref (a 205), .ref (a 206), .int 0, .int 0, .int 0, .int 0, .ref (a 208), .ref (a 209), .ref (a 210), .ref (a 211), .ref (a 212), .int 4, .int 12, .int (-1), .int 0, .ref (g 200), .ref (a 213), .int 0, .int 97, .ref (a 214), .ref (a 215), .ref (a 207), .null, .int 0]))] := (hD.to hAz).pick (ws' := [((a 200), .inr (21, [.int 1, .ref (a 201), .ref (a 202), .ref (a 203), .ref (a 204), .ref (a 205), .ref (a 206), .int 0, .int 0, .int 0, .int 0, .ref (a 208), .ref (a 209), .ref (a 210), .ref (a 211), .ref (a 212), .int 4, .int 12, .int (-1), .int 0, .ref (g 200), .ref (a 213), .int 0, .int 97, .ref (a 214), .ref (a 215), .ref (a 207), .null, .int 0]))]) [1] (by decide) rfl
          have hFc := va_free (wc := [((a 200), .inr (21, [.int 1, .ref (a 201), .ref (a 202), .ref (a 203), .ref (a 204), .ref (a 205), .ref (a 206), .int 0, .int 0, .int 0, .int 0, .ref (a 208), .ref (a 209), .ref (a 210), .ref (a 211), .ref (a 212), .int 4, .int 12, .int (-1), .int 0, .ref (g 200), .ref (a 213), .int 0, .int 97, .ref (a 214), .ref (a 215), .ref (a 207), .null, .int 0]))]) hD hS hA [1] rfl
          refine va_calli (va_runV (As := []) (rest := []) ⟨hx, hb, hml, hown, ht⟩ (k_X15_thrown_v2 l D g z0 _ a) (cwV 0 ht (gV w_772 w_774 w_775 w_334 w_773) rfl rfl rfl (by decide +kernel) (le2 rfl rfl)) ⟨PP.blind, va_recv hK.1 hP (ci := 21) (q0 := 1) rfl rfl, PP.mk' hK hZ hz hAz hS hPc hDc⟩ rfl rfl hl.1 rfl (lv_room (Nat.le_of_ble_eq_true rfl)) dL_law_3288 (le2 rfl rfl)) hS (fun q _ h => hFc q h) hFc (fun r u t H locs ht1 hvm hw hB hz1 hk1 hS => ?_)
          obtain ⟨rfl, hw⟩ := hw
          obtain ⟨hP1, hD1⟩ := hB
          rw [ht1] at hP1
          obtain ⟨hP, hD⟩ := va_join (wr := [(o1, .inl (g 1, 1, .inr (.inl (fun _ => 0))))]) (w1 := [((a 200), .inr (21, [.int 1, .ref (a 201), .ref (a 202), .ref (a 203), .ref (a 204), .ref (a 205), .ref (a 206), .int 0, .int 0, .int 0, .int 0, .ref (a 208), .ref (a 209), .ref (a 210), .ref (a 211), .ref (a 212), .int 4, .int 12, .int (-1), .int 0, .ref (g 200), .ref (a 213), .int 0, .int 97, .ref (a 214), .ref (a 215), .ref (a 207), .null, .int 0]))]) hP hD [1] [0] rfl rfl (by decide) (by decide) hk1 hFc hP1 hD1
          have hP : va_P D vwCl [(o1, .inl (g 1, 1, .inr (.inl (fun _ => 0)))), ((a 200), .inr (21, [.int 1, .ref (a 201), .ref (a 202), .ref (a 203), .ref (a 204), .ref (a 205), .ref (a 206), .int 0, .int 0, .int 0, .int 0, .ref (a 208), .ref (a 209), .ref (a 210), .ref (a 211), .ref (a 212), .int 4, .int 12, .int (-1), .int 0, .ref (g 200), .ref (a 213), .int 0, .int 97, .ref (a 214), .ref (a 215), .ref (a 207), .null, .int 0]))] H := hP
          have hD : va_D (va_A [] s.heap.size) [(o1, .inl (g 1, 1, .inr (.inl (fun _ => 0)))), ((a 200), .inr (21, [.int 1, .ref (a 201), .ref (a 202), .ref (a 203), .ref (a 204), .ref (a 205), .ref (a 206), .int 0, .int 0, .int 0, .int 0, .ref (a 208), .ref (a 209), .ref (a 210), .ref (a 211), .ref (a 212), .int 4, .int 12, .int (-1), .int 0, .ref (g 200), .ref (a 213), .int 0, .int 97, .ref (a 214), .ref (a 215), .ref (a 207), .null, .int 0]))] := hD
          refine lv_iload hx hb dL_law_3291 (lv_at hl 1 rfl) ?_
          refine lv_icmp_eq (tgt := 3298) hx hb dL_law_3293 (by decide) (fun c_3398 => ?_) (fun c_3398 => ?_)
          · refine lv_iload hx hb dL_law_3298 (lv_at hl 1 rfl) ?_
            refine lv_if_ne (tgt := 3322) hx hb dL_law_3300 (by decide) (fun c_3399 => ?_) (fun c_3399 => ?_)
            · refine lv_goto (tgt := 4264) hx hb dL_law_3322 (by decide) ?_
              refine W.widen (k := 200 + 300) (n := 8000 + 2000) (Nat.le_of_ble_eq_true rfl) (Nat.le_of_ble_eq_true rfl) ?_
              exact kk _ _ _ hS (lv_sub hl [7, 2] rfl)
            · exact absurd c_3399 (by decide)
          · exact absurd c_3398 (by decide)
        · obtain ⟨c_3400, c_3401, c_3402, c_3403⟩ := hw
          exact absurd (Int.le_trans (lo_nlt c_3303) (up_nlt c_3402)) (by decide)
        · obtain ⟨c_3404, c_3405, c_3406, c_3407, c_3408⟩ := hw
          exact absurd (Int.le_trans (lo_nlt c_3303) (up_nlt c_3406)) (by decide)
        · obtain ⟨c_3409, c_3410, c_3411, c_3412, c_3413, c_3414⟩ := hw
          exact absurd (Int.le_trans (lo_nlt c_3303) (up_nlt c_3411)) (by decide)
        · obtain ⟨c_3415, c_3416, c_3417, c_3418, c_3419, c_3420, c_3421, c_3422⟩ := hw
          exact absurd (Int.le_trans (lo_nlt c_3303) (up_nlt c_3417)) (by decide)
        · obtain ⟨c_3423, c_3424, c_3425, c_3426, c_3427, c_3428, c_3429, c_3430, c_3431⟩ := hw
          exact absurd (Int.le_trans (lo_nlt c_3303) (up_nlt c_3425)) (by decide)
        · obtain ⟨c_3432, c_3433, c_3434, c_3435, c_3436, c_3437, c_3438, c_3439, c_3440, c_3441⟩ := hw
          exact absurd (Int.le_trans (lo_nlt c_3303) (up_nlt c_3434)) (by decide)
        · obtain ⟨c_3442, c_3443, c_3444, c_3445, c_3446, c_3447, c_3448, c_3449, c_3450, c_3451, c_3452⟩ := hw
          exact absurd (Int.le_trans (lo_nlt c_3303) (up_nlt c_3444)) (by decide)
        · obtain ⟨c_3453, c_3454, c_3455, c_3456, c_3457⟩ := hw
          exact absurd c_3453 c_3300
        · obtain ⟨c_3458, c_3459, c_3460, c_3461, c_3462, c_3463⟩ := hw
          exact absurd c_3458 c_3300
        · obtain ⟨c_3464, c_3465, c_3466, c_3467, c_3468, c_3469, c_3470⟩ := hw
          exact absurd c_3464 c_3300
        · obtain ⟨c_3471, c_3472, c_3473, c_3474, c_3475, c_3476, c_3477, c_3478⟩ := hw
          exact absurd c_3471 c_3300
        · obtain ⟨c_3479, c_3480, c_3481, c_3482, c_3483⟩ := hw
          exact absurd c_3479 c_3299
        · obtain ⟨c_3484, c_3485, c_3486, c_3487, c_3488, c_3489⟩ := hw
          exact absurd c_3484 c_3299
        · obtain ⟨c_3490, c_3491, c_3492, c_3493, c_3494, c_3495, c_3496⟩ := hw
          exact absurd c_3490 c_3299
        · obtain ⟨c_3497, c_3498, c_3499, c_3500, c_3501, c_3502, c_3503, c_3504⟩ := hw
          exact absurd c_3497 c_3299
      · obtain ⟨rfl, rfl, hw⟩ := hw
        rcases hw with hw | hw | hw | hw | hw
        · obtain ⟨c_3505, c_3506, c_3507, c_3508, c_3509, c_3510, c_3511, c_3512⟩ := hw
          exact absurd (c_3301.symm.trans c_3505) (by decide)
        · obtain ⟨c_3513, c_3514, c_3515, c_3516, c_3517, c_3518, c_3519, c_3520, c_3521, c_3522⟩ := hw
          exact absurd (c_3301.symm.trans c_3513) (by decide)
        · obtain ⟨c_3523, c_3524, c_3525, c_3526, c_3527, c_3528, c_3529, c_3530, c_3531, c_3532, c_3533⟩ := hw
          exact absurd (Int.le_trans (lo_nlt c_3303) (up_nlt c_3525)) (by decide)
        · obtain ⟨c_3534, c_3535, c_3536, c_3537, c_3538, c_3539, c_3540, c_3541⟩ := hw
          exact absurd c_3534 c_3300
        · obtain ⟨c_3542, c_3543, c_3544, c_3545, c_3546, c_3547, c_3548, c_3549⟩ := hw
          exact absurd c_3542 c_3299
    · obtain ⟨c_3550, c_3551, c_3552, c_3553, c_3554⟩ := hw
      obtain ⟨hP1, hD1⟩ := hB
      rw [ht1] at hP1
      obtain ⟨hP, hD⟩ := va_join (wr := [((a 200), f_m a g)]) (w1 := [(o1, .inl (g 1, 1, .inr (.inl (fun _ => 0))))]) hP hD [3, 0, 1] [2] rfl rfl (by decide) (by decide) hk1 hFc hP1 hD1
      have hP : va_P D vwCl [((a 200), f_m a g), (o1, .inl (g 1, 1, .inr (.inl (fun _ => 0))))] H := hP
      have hD : va_D (va_A [] s.heap.size) [((a 200), f_m a g), (o1, .inl (g 1, 1, .inr (.inl (fun _ => 0))))] := hD
      refine lv_istore (lv' := [(6, .int 1), (0, .ref b), (1, .ref (a 0)), (2, .ref (a 200)), (3, .ref o1), (4, .ref o2), (5, .int 0)]) hx hb dL_law_3248 hl (by decide) rfl (fun ls hl => ?_)
      refine lv_aload_n hx hb dL_law_3250 rfl (lv_at hl 3 rfl) ?_
      refine lv_aload_n hx hb dL_law_3251 rfl (lv_at hl 1 rfl) ?_
      refine lv_iload hx hb dL_law_3252 (lv_at hl 6 rfl) ?_
      refine lv_iconst (v := 1) hx hb dL_law_3254 (by decide) ?_
      refine lv_iadd hx hb dL_law_3255 ?_
      refine r_topi (v := 1) (by decide) ?_
      refine va_sld hx hb hX hbl hbA hS (by unfold vp_in; decide) dL_law_3256 ?_
      refine r_topi (v := xs 1) (congrArg xs (by decide)) ?_
      refine lv_i2c (v := ((xs 1).toUInt32 % 65536).toInt32) hx hb dL_law_3257 rfl ?_
      refine lv_aload_n hx hb dL_law_3258 rfl (lv_at hl 1 rfl) ?_
      refine lv_iload hx hb dL_law_3259 (lv_at hl 6 rfl) ?_
      refine lv_iconst (v := 2) hx hb dL_law_3261 (by decide) ?_
      refine lv_iadd hx hb dL_law_3262 ?_
      refine r_topi (v := 2) (by decide) ?_
      refine va_sld hx hb hX hbl hbA hS (by unfold vp_in; decide) dL_law_3263 ?_
      refine r_topi (v := xs 2) (congrArg xs (by decide)) ?_
      refine lv_aload_n hx hb dL_law_3264 rfl (lv_at hl 1 rfl) ?_
      refine lv_iload hx hb dL_law_3265 (lv_at hl 6 rfl) ?_
      refine lv_iconst (v := 3) hx hb dL_law_3267 (by decide) ?_
      refine lv_iadd hx hb dL_law_3268 ?_
      refine r_topi (v := 3) (by decide) ?_
      refine va_sld hx hb hX hbl hbA hS (by unfold vp_in; decide) dL_law_3269 ?_
      refine r_topi (v := xs 3) (congrArg xs (by decide)) ?_
      refine lv_aload_n hx hb dL_law_3270 rfl (lv_at hl 1 rfl) ?_
      refine lv_iload hx hb dL_law_3271 (lv_at hl 6 rfl) ?_
      refine lv_iconst (v := 4) hx hb dL_law_3273 (by decide) ?_
      refine lv_iadd hx hb dL_law_3274 ?_
      refine r_topi (v := 4) (by decide) ?_
      refine va_sld hx hb hX hbl hbA hS (by unfold vp_in; decide) dL_law_3275 ?_
      refine r_topi (v := xs 4) (congrArg xs (by decide)) ?_
      refine lv_aload_n hx hb dL_law_3276 rfl (lv_at hl 1 rfl) ?_
      refine lv_iload hx hb dL_law_3277 (lv_at hl 6 rfl) ?_
      refine lv_iconst (v := 5) hx hb dL_law_3279 (by decide) ?_
      refine lv_iadd hx hb dL_law_3280 ?_
      refine r_topi (v := 5) (by decide) ?_
      refine va_sld hx hb hX hbl hbA hS (by unfold vp_in; decide) dL_law_3281 ?_
      refine r_topi (v := xs 5) (congrArg xs (by decide)) ?_
      have hPc : va_P D vwCl [((a 200), f_m a g)] _ := hP.sub (ws' := [((a 200), f_m a g)]) [0] rfl
      have hDc : va_D (fun q => z0 ≤ q) [((a 200), f_m a g)] := (hD.to hAz).pick (ws' := [((a 200), f_m a g)]) [0] (by decide) rfl
      have hFc := va_free (wc := [((a 200), f_m a g)]) hD hS hA [0] rfl
      refine va_calli (va_runV (As := [.int (((xs 1).toUInt32 % 65536).toInt32), .int (xs 2), .int (xs 3), .int (xs 4), .int (xs 5)]) (rest := []) ⟨hx, hb, hml, hown, ht⟩ (k_X15_marchFinds l D g z0 _ a (((xs 1).toUInt32 % 65536).toInt32) (xs 2) (xs 3) (xs 4) (xs 5) (isC_i2c _)) (cwV 5 ht (gV w_1231 w_1233 w_1234 w_334 w_1232) rfl rfl rfl (by decide +kernel) (le2 rfl rfl)) ⟨PP.blind, va_recv hK.1 hP (ci := 21) (q0 := 0) rfl rfl, PP.mk' hK hZ hz hAz hS hPc hDc⟩ rfl rfl hl.1 rfl (lv_room (Nat.le_of_ble_eq_true rfl)) dL_law_3282 (le2 rfl rfl)) hS (fun q _ h => hFc q h) hFc (fun r u t H locs ht1 hvm hw hB hz1 hk1 hS => ?_)
      rcases hw with hw | hw
      · obtain ⟨rfl, rfl, hw⟩ := hw
        rcases hw with hw | hw | hw | hw | hw | hw | hw | hw | hw | hw | hw | hw | hw | hw | hw | hw | hw | hw | hw | hw | hw | hw | hw | hw | hw | hw | hw | hw | hw | hw | hw | hw
        · obtain ⟨c_3555, c_3556, c_3557, c_3558, c_3559⟩ := hw
          exact absurd c_3553 c_3558
        · obtain ⟨c_3560, c_3561, c_3562, c_3563, c_3564⟩ := hw
          exact absurd c_3553 c_3563
        · obtain ⟨c_3565, c_3566, c_3567, c_3568, c_3569⟩ := hw
          exact absurd c_3553 c_3568
        · obtain ⟨c_3570, c_3571, c_3572, c_3573⟩ := hw
          exact absurd (c_3553.symm.trans c_3570) (by decide)
        · obtain ⟨c_3574, c_3575, c_3576, c_3577, c_3578⟩ := hw
          exact absurd (c_3553.symm.trans c_3574) (by decide)
        · obtain ⟨c_3579, c_3580, c_3581, c_3582, c_3583, c_3584⟩ := hw
          exact absurd (c_3553.symm.trans c_3579) (by decide)
        · obtain ⟨c_3585, c_3586, c_3587, c_3588, c_3589, c_3590, c_3591⟩ := hw
          exact absurd (c_3553.symm.trans c_3585) (by decide)
        · obtain ⟨c_3592, c_3593, c_3594, c_3595, c_3596, c_3597, c_3598, c_3599⟩ := hw
          exact absurd (c_3553.symm.trans c_3592) (by decide)
        · obtain ⟨c_3600, c_3601, c_3602⟩ := hw
          obtain ⟨hP1, hD1⟩ := hB
          rw [ht1] at hP1
          obtain ⟨hP, hD⟩ := va_join (wr := [(o1, .inl (g 1, 1, .inr (.inl (fun _ => 0))))]) (w1 := [((a 200), .inr (21, [.int 1, .ref (a 201), .ref (a 202), .ref (a 203), .ref (a 204), .ref (a 205), .ref (a 206), .int 0, .int 0, .int 0, .int 0, .ref (a 208), .ref (a 209), .ref (a 210), .ref (a 211), .ref (a 212), .int 4, .int 12, .int (-1), .int 0, .ref (g 200), .ref (a 213), .int 0, .int 97, .ref (a 214), .ref (a 215), .ref (a 207), .null, .int 0]))]) hP hD [0] [1] rfl rfl (by decide) (by decide) hk1 hFc hP1 hD1
          have hP : va_P D vwCl [(o1, .inl (g 1, 1, .inr (.inl (fun _ => 0)))), ((a 200), .inr (21, [.int 1, .ref (a 201), .ref (a 202), .ref (a 203), .ref (a 204), .ref (a 205), .ref (a 206), .int 0, .int 0, .int 0, .int 0, .ref (a 208), .ref (a 209), .ref (a 210), .ref (a 211), .ref (a 212), .int 4, .int 12, .int (-1), .int 0, .ref (g 200), .ref (a 213), .int 0, .int 97, .ref (a 214), .ref (a 215), .ref (a 207), .null, .int 0]))] H := hP
          have hD : va_D (va_A [] s.heap.size) [(o1, .inl (g 1, 1, .inr (.inl (fun _ => 0)))), ((a 200), .inr (21, [.int 1, .ref (a 201), .ref (a 202), .ref (a 203), .ref (a 204), .ref (a 205), .ref (a 206), .int 0, .int 0, .int 0, .int 0, .ref (a 208), .ref (a 209), .ref (a 210), .ref (a 211), .ref (a 212), .int 4, .int 12, .int (-1), .int 0, .ref (g 200), .ref (a 213), .int 0, .int 97, .ref (a 214), .ref (a 215), .ref (a 207), .null, .int 0]))] := hD
          refine lv_istore (lv' := [(7, .int 0), (6, .int 1), (0, .ref b), (1, .ref (a 0)), (2, .ref (a 200)), (3, .ref o1), (4, .ref o2), (5, .int 0)]) hx hb dL_law_3285 hl (by decide) rfl (fun ls hl => ?_)
          refine lv_aload_n hx hb dL_law_3287 rfl (lv_at hl 4 rfl) ?_
          have hPc : va_P D vwCl [((a 200), .inr (21, [.int 1, .ref (a 201), .ref (a 202), .ref (a 203), .ref (a 204), .ref (a 205), .ref (a 206), .int 0, .int 0, .int 0, .int 0, .ref (a 208), .ref (a 209), .ref (a 210), .ref (a 211), .ref (a 212), .int 4, .int 12, .int (-1), .int 0, .ref (g 200), .ref (a 213), .int 0, .int 97, .ref (a 214), .ref (a 215), .ref (a 207), .null, .int 0]))] _ := hP.sub (ws' := [((a 200), .inr (21, [.int 1, .ref (a 201), .ref (a 202), .ref (a 203), .ref (a 204), .ref (a 205), .ref (a 206), .int 0, .int 0, .int 0, .int 0, .ref (a 208), .ref (a 209), .ref (a 210), .ref (a 211), .ref (a 212), .int 4, .int 12, .int (-1), .int 0, .ref (g 200), .ref (a 213), .int 0, .int 97, .ref (a 214), .ref (a 215), .ref (a 207), .null, .int 0]))]) [1] rfl
          have hDc : va_D (fun q => z0 ≤ q) [((a 200), .inr (21, [.int 1, .ref (a 201), .ref (a 202), .ref (a 203), .ref (a 204), .ref (a 205), .ref (a 206), .int 0, .int 0, .int 0, .int 0, .ref (a 208), .ref (a 209), .ref (a 210), .ref (a 211), .ref (a 212), .int 4, .int 12, .int (-1), .int 0, .ref (g 200), .ref (a 213), .int 0, .int 97, .ref (a 214), .ref (a 215), .ref (a 207), .null, .int 0]))] := (hD.to hAz).pick (ws' := [((a 200), .inr (21, [.int 1, .ref (a 201), .ref (a 202), .ref (a 203), .ref (a 204), .ref (a 205), .ref (a 206), .int 0, .int 0, .int 0, .int 0, .ref (a 208), .ref (a 209), .ref (a 210), .ref (a 211), .ref (a 212), .int 4, .int 12, .int (-1), .int 0, .ref (g 200), .ref (a 213), .int 0, .int 97, .ref (a 214), .ref (a 215), .ref (a 207), .null, .int 0]))]) [1] (by decide) rfl
          have hFc := va_free (wc := [((a 200), .inr (21, [.int 1, .ref (a 201), .ref (a 202), .ref (a 203), .ref (a 204), .ref (a 205), .ref (a 206), .int 0, .int 0, .int 0, .int 0, .ref (a 208), .ref (a 209), .ref (a 210), .ref (a 211), .ref (a 212), .int 4, .int 12, .int (-1), .int 0, .ref (g 200), .ref (a 213), .int 0, .int 97, .ref (a 214), .ref (a 215), .ref (a 207), .null, .int 0]))]) hD hS hA [1] rfl
          refine va_calli (va_runV (As := []) (rest := []) ⟨hx, hb, hml, hown, ht⟩ (k_X15_thrown_v2 l D g z0 _ a) (cwV 0 ht (gV w_772 w_774 w_775 w_334 w_773) rfl rfl rfl (by decide +kernel) (le2 rfl rfl)) ⟨PP.blind, va_recv hK.1 hP (ci := 21) (q0 := 1) rfl rfl, PP.mk' hK hZ hz hAz hS hPc hDc⟩ rfl rfl hl.1 rfl (lv_room (Nat.le_of_ble_eq_true rfl)) dL_law_3288 (le2 rfl rfl)) hS (fun q _ h => hFc q h) hFc (fun r u t H locs ht1 hvm hw hB hz1 hk1 hS => ?_)
          obtain ⟨rfl, hw⟩ := hw
          obtain ⟨hP1, hD1⟩ := hB
          rw [ht1] at hP1
          obtain ⟨hP, hD⟩ := va_join (wr := [(o1, .inl (g 1, 1, .inr (.inl (fun _ => 0))))]) (w1 := [((a 200), .inr (21, [.int 1, .ref (a 201), .ref (a 202), .ref (a 203), .ref (a 204), .ref (a 205), .ref (a 206), .int 0, .int 0, .int 0, .int 0, .ref (a 208), .ref (a 209), .ref (a 210), .ref (a 211), .ref (a 212), .int 4, .int 12, .int (-1), .int 0, .ref (g 200), .ref (a 213), .int 0, .int 97, .ref (a 214), .ref (a 215), .ref (a 207), .null, .int 0]))]) hP hD [1] [0] rfl rfl (by decide) (by decide) hk1 hFc hP1 hD1
          have hP : va_P D vwCl [(o1, .inl (g 1, 1, .inr (.inl (fun _ => 0)))), ((a 200), .inr (21, [.int 1, .ref (a 201), .ref (a 202), .ref (a 203), .ref (a 204), .ref (a 205), .ref (a 206), .int 0, .int 0, .int 0, .int 0, .ref (a 208), .ref (a 209), .ref (a 210), .ref (a 211), .ref (a 212), .int 4, .int 12, .int (-1), .int 0, .ref (g 200), .ref (a 213), .int 0, .int 97, .ref (a 214), .ref (a 215), .ref (a 207), .null, .int 0]))] H := hP
          have hD : va_D (va_A [] s.heap.size) [(o1, .inl (g 1, 1, .inr (.inl (fun _ => 0)))), ((a 200), .inr (21, [.int 1, .ref (a 201), .ref (a 202), .ref (a 203), .ref (a 204), .ref (a 205), .ref (a 206), .int 0, .int 0, .int 0, .int 0, .ref (a 208), .ref (a 209), .ref (a 210), .ref (a 211), .ref (a 212), .int 4, .int 12, .int (-1), .int 0, .ref (g 200), .ref (a 213), .int 0, .int 97, .ref (a 214), .ref (a 215), .ref (a 207), .null, .int 0]))] := hD
          refine lv_iload hx hb dL_law_3291 (lv_at hl 1 rfl) ?_
          refine lv_icmp_eq (tgt := 3298) hx hb dL_law_3293 (by decide) (fun c_3603 => ?_) (fun c_3603 => ?_)
          · refine lv_iload hx hb dL_law_3298 (lv_at hl 1 rfl) ?_
            refine lv_if_ne (tgt := 3322) hx hb dL_law_3300 (by decide) (fun c_3604 => ?_) (fun c_3604 => ?_)
            · refine lv_goto (tgt := 4264) hx hb dL_law_3322 (by decide) ?_
              refine W.widen (k := 200 + 300) (n := 8000 + 2000) (Nat.le_of_ble_eq_true rfl) (Nat.le_of_ble_eq_true rfl) ?_
              exact kk _ _ _ hS (lv_sub hl [7, 2] rfl)
            · exact absurd c_3604 (by decide)
          · exact absurd c_3603 (by decide)
        · obtain ⟨c_3605, c_3606, c_3607, c_3608⟩ := hw
          exact absurd c_3554 c_3607
        · obtain ⟨c_3609, c_3610, c_3611, c_3612, c_3613⟩ := hw
          exact absurd c_3554 c_3611
        · obtain ⟨c_3614, c_3615, c_3616, c_3617, c_3618, c_3619⟩ := hw
          exact absurd c_3554 c_3616
        · obtain ⟨c_3620, c_3621, c_3622, c_3623, c_3624, c_3625, c_3626⟩ := hw
          exact absurd c_3554 c_3622
        · obtain ⟨c_3627, c_3628, c_3629, c_3630, c_3631, c_3632, c_3633, c_3634, c_3635⟩ := hw
          exact absurd c_3554 c_3629
        · obtain ⟨c_3636, c_3637, c_3638, c_3639, c_3640, c_3641, c_3642, c_3643, c_3644, c_3645⟩ := hw
          exact absurd c_3554 c_3638
        · obtain ⟨c_3646, c_3647⟩ := hw
          exact absurd c_3646 c_3552
        · obtain ⟨c_3648, c_3649, c_3650⟩ := hw
          exact absurd c_3648 c_3552
        · obtain ⟨c_3651, c_3652, c_3653, c_3654⟩ := hw
          exact absurd c_3651 c_3552
        · obtain ⟨c_3655, c_3656, c_3657, c_3658, c_3659⟩ := hw
          exact absurd c_3655 c_3552
        · obtain ⟨c_3660, c_3661, c_3662, c_3663, c_3664, c_3665⟩ := hw
          exact absurd c_3660 c_3552
        · obtain ⟨c_3666, c_3667, c_3668, c_3669, c_3670, c_3671, c_3672, c_3673⟩ := hw
          exact absurd c_3666 c_3552
        · obtain ⟨c_3674, c_3675, c_3676, c_3677, c_3678, c_3679, c_3680, c_3681, c_3682⟩ := hw
          exact absurd c_3674 c_3552
        · obtain ⟨c_3683, c_3684, c_3685, c_3686, c_3687, c_3688, c_3689, c_3690, c_3691, c_3692⟩ := hw
          exact absurd c_3683 c_3552
        · obtain ⟨c_3693, c_3694, c_3695, c_3696, c_3697, c_3698, c_3699, c_3700, c_3701, c_3702, c_3703⟩ := hw
          exact absurd c_3693 c_3552
        · obtain ⟨c_3704, c_3705, c_3706, c_3707, c_3708⟩ := hw
          exact absurd c_3704 c_3551
        · obtain ⟨c_3709, c_3710, c_3711, c_3712, c_3713, c_3714⟩ := hw
          exact absurd c_3709 c_3551
        · obtain ⟨c_3715, c_3716, c_3717, c_3718, c_3719, c_3720, c_3721⟩ := hw
          exact absurd c_3715 c_3551
        · obtain ⟨c_3722, c_3723, c_3724, c_3725, c_3726, c_3727, c_3728, c_3729⟩ := hw
          exact absurd c_3722 c_3551
        · obtain ⟨c_3730, c_3731, c_3732, c_3733, c_3734⟩ := hw
          exact absurd c_3730 c_3550
        · obtain ⟨c_3735, c_3736, c_3737, c_3738, c_3739, c_3740⟩ := hw
          exact absurd c_3735 c_3550
        · obtain ⟨c_3741, c_3742, c_3743, c_3744, c_3745, c_3746, c_3747⟩ := hw
          exact absurd c_3741 c_3550
        · obtain ⟨c_3748, c_3749, c_3750, c_3751, c_3752, c_3753, c_3754, c_3755⟩ := hw
          exact absurd c_3748 c_3550
      · obtain ⟨rfl, rfl, hw⟩ := hw
        rcases hw with hw | hw | hw | hw | hw
        · obtain ⟨c_3756, c_3757, c_3758, c_3759, c_3760, c_3761, c_3762, c_3763⟩ := hw
          exact absurd (c_3553.symm.trans c_3756) (by decide)
        · obtain ⟨c_3764, c_3765, c_3766, c_3767, c_3768, c_3769, c_3770, c_3771, c_3772, c_3773⟩ := hw
          exact absurd c_3554 c_3766
        · obtain ⟨c_3774, c_3775, c_3776, c_3777, c_3778, c_3779, c_3780, c_3781, c_3782, c_3783, c_3784⟩ := hw
          exact absurd c_3774 c_3552
        · obtain ⟨c_3785, c_3786, c_3787, c_3788, c_3789, c_3790, c_3791, c_3792⟩ := hw
          exact absurd c_3785 c_3551
        · obtain ⟨c_3793, c_3794, c_3795, c_3796, c_3797, c_3798, c_3799, c_3800⟩ := hw
          exact absurd c_3793 c_3550
    · obtain ⟨c_3801, c_3802, c_3803, c_3804, c_3805, c_3806, c_3807⟩ := hw
      obtain ⟨hP1, hD1⟩ := hB
      rw [ht1] at hP1
      obtain ⟨hP, hD⟩ := va_join (wr := [((a 200), f_m a g)]) (w1 := [(o1, .inl (g 1, 1, .inr (.inl (fun _ => 0))))]) hP hD [3, 0, 1] [2] rfl rfl (by decide) (by decide) hk1 hFc hP1 hD1
      have hP : va_P D vwCl [((a 200), f_m a g), (o1, .inl (g 1, 1, .inr (.inl (fun _ => 0))))] H := hP
      have hD : va_D (va_A [] s.heap.size) [((a 200), f_m a g), (o1, .inl (g 1, 1, .inr (.inl (fun _ => 0))))] := hD
      refine lv_istore (lv' := [(6, .int 1), (0, .ref b), (1, .ref (a 0)), (2, .ref (a 200)), (3, .ref o1), (4, .ref o2), (5, .int 0)]) hx hb dL_law_3248 hl (by decide) rfl (fun ls hl => ?_)
      refine lv_aload_n hx hb dL_law_3250 rfl (lv_at hl 3 rfl) ?_
      refine lv_aload_n hx hb dL_law_3251 rfl (lv_at hl 1 rfl) ?_
      refine lv_iload hx hb dL_law_3252 (lv_at hl 6 rfl) ?_
      refine lv_iconst (v := 1) hx hb dL_law_3254 (by decide) ?_
      refine lv_iadd hx hb dL_law_3255 ?_
      refine r_topi (v := 1) (by decide) ?_
      refine va_sld hx hb hX hbl hbA hS (by unfold vp_in; decide) dL_law_3256 ?_
      refine r_topi (v := xs 1) (congrArg xs (by decide)) ?_
      refine lv_i2c (v := ((xs 1).toUInt32 % 65536).toInt32) hx hb dL_law_3257 rfl ?_
      refine lv_aload_n hx hb dL_law_3258 rfl (lv_at hl 1 rfl) ?_
      refine lv_iload hx hb dL_law_3259 (lv_at hl 6 rfl) ?_
      refine lv_iconst (v := 2) hx hb dL_law_3261 (by decide) ?_
      refine lv_iadd hx hb dL_law_3262 ?_
      refine r_topi (v := 2) (by decide) ?_
      refine va_sld hx hb hX hbl hbA hS (by unfold vp_in; decide) dL_law_3263 ?_
      refine r_topi (v := xs 2) (congrArg xs (by decide)) ?_
      refine lv_aload_n hx hb dL_law_3264 rfl (lv_at hl 1 rfl) ?_
      refine lv_iload hx hb dL_law_3265 (lv_at hl 6 rfl) ?_
      refine lv_iconst (v := 3) hx hb dL_law_3267 (by decide) ?_
      refine lv_iadd hx hb dL_law_3268 ?_
      refine r_topi (v := 3) (by decide) ?_
      refine va_sld hx hb hX hbl hbA hS (by unfold vp_in; decide) dL_law_3269 ?_
      refine r_topi (v := xs 3) (congrArg xs (by decide)) ?_
      refine lv_aload_n hx hb dL_law_3270 rfl (lv_at hl 1 rfl) ?_
      refine lv_iload hx hb dL_law_3271 (lv_at hl 6 rfl) ?_
      refine lv_iconst (v := 4) hx hb dL_law_3273 (by decide) ?_
      refine lv_iadd hx hb dL_law_3274 ?_
      refine r_topi (v := 4) (by decide) ?_
      refine va_sld hx hb hX hbl hbA hS (by unfold vp_in; decide) dL_law_3275 ?_
      refine r_topi (v := xs 4) (congrArg xs (by decide)) ?_
      refine lv_aload_n hx hb dL_law_3276 rfl (lv_at hl 1 rfl) ?_
      refine lv_iload hx hb dL_law_3277 (lv_at hl 6 rfl) ?_
      refine lv_iconst (v := 5) hx hb dL_law_3279 (by decide) ?_
      refine lv_iadd hx hb dL_law_3280 ?_
      refine r_topi (v := 5) (by decide) ?_
      refine va_sld hx hb hX hbl hbA hS (by unfold vp_in; decide) dL_law_3281 ?_
      refine r_topi (v := xs 5) (congrArg xs (by decide)) ?_
      have hPc : va_P D vwCl [((a 200), f_m a g)] _ := hP.sub (ws' := [((a 200), f_m a g)]) [0] rfl
      have hDc : va_D (fun q => z0 ≤ q) [((a 200), f_m a g)] := (hD.to hAz).pick (ws' := [((a 200), f_m a g)]) [0] (by decide) rfl
      have hFc := va_free (wc := [((a 200), f_m a g)]) hD hS hA [0] rfl
      refine va_calli (va_runV (As := [.int (((xs 1).toUInt32 % 65536).toInt32), .int (xs 2), .int (xs 3), .int (xs 4), .int (xs 5)]) (rest := []) ⟨hx, hb, hml, hown, ht⟩ (k_X15_marchFinds l D g z0 _ a (((xs 1).toUInt32 % 65536).toInt32) (xs 2) (xs 3) (xs 4) (xs 5) (isC_i2c _)) (cwV 5 ht (gV w_1231 w_1233 w_1234 w_334 w_1232) rfl rfl rfl (by decide +kernel) (le2 rfl rfl)) ⟨PP.blind, va_recv hK.1 hP (ci := 21) (q0 := 0) rfl rfl, PP.mk' hK hZ hz hAz hS hPc hDc⟩ rfl rfl hl.1 rfl (lv_room (Nat.le_of_ble_eq_true rfl)) dL_law_3282 (le2 rfl rfl)) hS (fun q _ h => hFc q h) hFc (fun r u t H locs ht1 hvm hw hB hz1 hk1 hS => ?_)
      rcases hw with hw | hw
      · obtain ⟨rfl, rfl, hw⟩ := hw
        rcases hw with hw | hw | hw | hw | hw | hw | hw | hw | hw | hw | hw | hw | hw | hw | hw | hw | hw | hw | hw | hw | hw | hw | hw | hw | hw | hw | hw | hw | hw | hw | hw | hw
        · obtain ⟨c_3808, c_3809, c_3810, c_3811, c_3812⟩ := hw
          exact absurd c_3804 c_3811
        · obtain ⟨c_3813, c_3814, c_3815, c_3816, c_3817⟩ := hw
          exact absurd c_3804 c_3816
        · obtain ⟨c_3818, c_3819, c_3820, c_3821, c_3822⟩ := hw
          exact absurd c_3804 c_3821
        · obtain ⟨c_3823, c_3824, c_3825, c_3826⟩ := hw
          exact absurd (c_3804.symm.trans c_3823) (by decide)
        · obtain ⟨c_3827, c_3828, c_3829, c_3830, c_3831⟩ := hw
          exact absurd (c_3804.symm.trans c_3827) (by decide)
        · obtain ⟨c_3832, c_3833, c_3834, c_3835, c_3836, c_3837⟩ := hw
          exact absurd (c_3804.symm.trans c_3832) (by decide)
        · obtain ⟨c_3838, c_3839, c_3840, c_3841, c_3842, c_3843, c_3844⟩ := hw
          exact absurd (c_3804.symm.trans c_3838) (by decide)
        · obtain ⟨c_3845, c_3846, c_3847, c_3848, c_3849, c_3850, c_3851, c_3852⟩ := hw
          exact absurd (c_3804.symm.trans c_3845) (by decide)
        · obtain ⟨c_3853, c_3854, c_3855⟩ := hw
          exact absurd c_3855 c_3805
        · obtain ⟨c_3856, c_3857, c_3858, c_3859⟩ := hw
          exact absurd (Int.le_trans (lo_lt c_3859) (up_lt c_3806)) (by decide)
        · obtain ⟨c_3860, c_3861, c_3862, c_3863, c_3864⟩ := hw
          obtain ⟨hP1, hD1⟩ := hB
          rw [ht1] at hP1
          obtain ⟨hP, hD⟩ := va_join (wr := [(o1, .inl (g 1, 1, .inr (.inl (fun _ => 0))))]) (w1 := [((a 200), .inr (21, [.int 1, .ref (a 201), .ref (a 202), .ref (a 203), .ref (a 204), .ref (a 205), .ref (a 206), .int 0, .int 0, .int 0, .int 0, .ref (a 208), .ref (a 209), .ref (a 210), .ref (a 211), .ref (a 212), .int 4, .int 12, .int (-1), .int 0, .ref (g 200), .ref (a 213), .int 0, .int 97, .ref (a 214), .ref (a 215), .ref (a 207), .null, .int 0]))]) hP hD [0] [1] rfl rfl (by decide) (by decide) hk1 hFc hP1 hD1
          have hP : va_P D vwCl [(o1, .inl (g 1, 1, .inr (.inl (fun _ => 0)))), ((a 200), .inr (21, [.int 1, .ref (a 201), .ref (a 202), .ref (a 203), .ref (a 204), .ref (a 205), .ref (a 206), .int 0, .int 0, .int 0, .int 0, .ref (a 208), .ref (a 209), .ref (a 210), .ref (a 211), .ref (a 212), .int 4, .int 12, .int (-1), .int 0, .ref (g 200), .ref (a 213), .int 0, .int 97, .ref (a 214), .ref (a 215), .ref (a 207), .null, .int 0]))] H := hP
          have hD : va_D (va_A [] s.heap.size) [(o1, .inl (g 1, 1, .inr (.inl (fun _ => 0)))), ((a 200), .inr (21, [.int 1, .ref (a 201), .ref (a 202), .ref (a 203), .ref (a 204), .ref (a 205), .ref (a 206), .int 0, .int 0, .int 0, .int 0, .ref (a 208), .ref (a 209), .ref (a 210), .ref (a 211), .ref (a 212), .int 4, .int 12, .int (-1), .int 0, .ref (g 200), .ref (a 213), .int 0, .int 97, .ref (a 214), .ref (a 215), .ref (a 207), .null, .int 0]))] := hD
          refine lv_istore (lv' := [(7, .int 0), (6, .int 1), (0, .ref b), (1, .ref (a 0)), (2, .ref (a 200)), (3, .ref o1), (4, .ref o2), (5, .int 0)]) hx hb dL_law_3285 hl (by decide) rfl (fun ls hl => ?_)
          refine lv_aload_n hx hb dL_law_3287 rfl (lv_at hl 4 rfl) ?_
          have hPc : va_P D vwCl [((a 200), .inr (21, [.int 1, .ref (a 201), .ref (a 202), .ref (a 203), .ref (a 204), .ref (a 205), .ref (a 206), .int 0, .int 0, .int 0, .int 0, .ref (a 208), .ref (a 209), .ref (a 210), .ref (a 211), .ref (a 212), .int 4, .int 12, .int (-1), .int 0, .ref (g 200), .ref (a 213), .int 0, .int 97, .ref (a 214), .ref (a 215), .ref (a 207), .null, .int 0]))] _ := hP.sub (ws' := [((a 200), .inr (21, [.int 1, .ref (a 201), .ref (a 202), .ref (a 203), .ref (a 204), .ref (a 205), .ref (a 206), .int 0, .int 0, .int 0, .int 0, .ref (a 208), .ref (a 209), .ref (a 210), .ref (a 211), .ref (a 212), .int 4, .int 12, .int (-1), .int 0, .ref (g 200), .ref (a 213), .int 0, .int 97, .ref (a 214), .ref (a 215), .ref (a 207), .null, .int 0]))]) [1] rfl
          have hDc : va_D (fun q => z0 ≤ q) [((a 200), .inr (21, [.int 1, .ref (a 201), .ref (a 202), .ref (a 203), .ref (a 204), .ref (a 205), .ref (a 206), .int 0, .int 0, .int 0, .int 0, .ref (a 208), .ref (a 209), .ref (a 210), .ref (a 211), .ref (a 212), .int 4, .int 12, .int (-1), .int 0, .ref (g 200), .ref (a 213), .int 0, .int 97, .ref (a 214), .ref (a 215), .ref (a 207), .null, .int 0]))] := (hD.to hAz).pick (ws' := [((a 200), .inr (21, [.int 1, .ref (a 201), .ref (a 202), .ref (a 203), .ref (a 204), .ref (a 205), .ref (a 206), .int 0, .int 0, .int 0, .int 0, .ref (a 208), .ref (a 209), .ref (a 210), .ref (a 211), .ref (a 212), .int 4, .int 12, .int (-1), .int 0, .ref (g 200), .ref (a 213), .int 0, .int 97, .ref (a 214), .ref (a 215), .ref (a 207), .null, .int 0]))]) [1] (by decide) rfl
          have hFc := va_free (wc := [((a 200), .inr (21, [.int 1, .ref (a 201), .ref (a 202), .ref (a 203), .ref (a 204), .ref (a 205), .ref (a 206), .int 0, .int 0, .int 0, .int 0, .ref (a 208), .ref (a 209), .ref (a 210), .ref (a 211), .ref (a 212), .int 4, .int 12, .int (-1), .int 0, .ref (g 200), .ref (a 213), .int 0, .int 97, .ref (a 214), .ref (a 215), .ref (a 207), .null, .int 0]))]) hD hS hA [1] rfl
          refine va_calli (va_runV (As := []) (rest := []) ⟨hx, hb, hml, hown, ht⟩ (k_X15_thrown_v2 l D g z0 _ a) (cwV 0 ht (gV w_772 w_774 w_775 w_334 w_773) rfl rfl rfl (by decide +kernel) (le2 rfl rfl)) ⟨PP.blind, va_recv hK.1 hP (ci := 21) (q0 := 1) rfl rfl, PP.mk' hK hZ hz hAz hS hPc hDc⟩ rfl rfl hl.1 rfl (lv_room (Nat.le_of_ble_eq_true rfl)) dL_law_3288 (le2 rfl rfl)) hS (fun q _ h => hFc q h) hFc (fun r u t H locs ht1 hvm hw hB hz1 hk1 hS => ?_)
          obtain ⟨rfl, hw⟩ := hw
          obtain ⟨hP1, hD1⟩ := hB
          rw [ht1] at hP1
          obtain ⟨hP, hD⟩ := va_join (wr := [(o1, .inl (g 1, 1, .inr (.inl (fun _ => 0))))]) (w1 := [((a 200), .inr (21, [.int 1, .ref (a 201), .ref (a 202), .ref (a 203), .ref (a 204), .ref (a 205), .ref (a 206), .int 0, .int 0, .int 0, .int 0, .ref (a 208), .ref (a 209), .ref (a 210), .ref (a 211), .ref (a 212), .int 4, .int 12, .int (-1), .int 0, .ref (g 200), .ref (a 213), .int 0, .int 97, .ref (a 214), .ref (a 215), .ref (a 207), .null, .int 0]))]) hP hD [1] [0] rfl rfl (by decide) (by decide) hk1 hFc hP1 hD1
          have hP : va_P D vwCl [(o1, .inl (g 1, 1, .inr (.inl (fun _ => 0)))), ((a 200), .inr (21, [.int 1, .ref (a 201), .ref (a 202), .ref (a 203), .ref (a 204), .ref (a 205), .ref (a 206), .int 0, .int 0, .int 0, .int 0, .ref (a 208), .ref (a 209), .ref (a 210), .ref (a 211), .ref (a 212), .int 4, .int 12, .int (-1), .int 0, .ref (g 200), .ref (a 213), .int 0, .int 97, .ref (a 214), .ref (a 215), .ref (a 207), .null, .int 0]))] H := hP
          have hD : va_D (va_A [] s.heap.size) [(o1, .inl (g 1, 1, .inr (.inl (fun _ => 0)))), ((a 200), .inr (21, [.int 1, .ref (a 201), .ref (a 202), .ref (a 203), .ref (a 204), .ref (a 205), .ref (a 206), .int 0, .int 0, .int 0, .int 0, .ref (a 208), .ref (a 209), .ref (a 210), .ref (a 211), .ref (a 212), .int 4, .int 12, .int (-1), .int 0, .ref (g 200), .ref (a 213), .int 0, .int 97, .ref (a 214), .ref (a 215), .ref (a 207), .null, .int 0]))] := hD
          refine lv_iload hx hb dL_law_3291 (lv_at hl 1 rfl) ?_
          refine lv_icmp_eq (tgt := 3298) hx hb dL_law_3293 (by decide) (fun c_3865 => ?_) (fun c_3865 => ?_)
          · refine lv_iload hx hb dL_law_3298 (lv_at hl 1 rfl) ?_
            refine lv_if_ne (tgt := 3322) hx hb dL_law_3300 (by decide) (fun c_3866 => ?_) (fun c_3866 => ?_)
            · refine lv_goto (tgt := 4264) hx hb dL_law_3322 (by decide) ?_
              refine W.widen (k := 200 + 300) (n := 8000 + 2000) (Nat.le_of_ble_eq_true rfl) (Nat.le_of_ble_eq_true rfl) ?_
              exact kk _ _ _ hS (lv_sub hl [7, 2] rfl)
            · exact absurd c_3866 (by decide)
          · exact absurd c_3865 (by decide)
        · obtain ⟨c_3867, c_3868, c_3869, c_3870, c_3871, c_3872⟩ := hw
          exact absurd c_3807 c_3871
        · obtain ⟨c_3873, c_3874, c_3875, c_3876, c_3877, c_3878, c_3879⟩ := hw
          exact absurd c_3807 c_3877
        · obtain ⟨c_3880, c_3881, c_3882, c_3883, c_3884, c_3885, c_3886, c_3887, c_3888⟩ := hw
          exact absurd c_3807 c_3884
        · obtain ⟨c_3889, c_3890, c_3891, c_3892, c_3893, c_3894, c_3895, c_3896, c_3897, c_3898⟩ := hw
          exact absurd c_3807 c_3893
        · obtain ⟨c_3899, c_3900⟩ := hw
          exact absurd c_3899 c_3803
        · obtain ⟨c_3901, c_3902, c_3903⟩ := hw
          exact absurd c_3901 c_3803
        · obtain ⟨c_3904, c_3905, c_3906, c_3907⟩ := hw
          exact absurd c_3904 c_3803
        · obtain ⟨c_3908, c_3909, c_3910, c_3911, c_3912⟩ := hw
          exact absurd c_3908 c_3803
        · obtain ⟨c_3913, c_3914, c_3915, c_3916, c_3917, c_3918⟩ := hw
          exact absurd c_3913 c_3803
        · obtain ⟨c_3919, c_3920, c_3921, c_3922, c_3923, c_3924, c_3925, c_3926⟩ := hw
          exact absurd c_3919 c_3803
        · obtain ⟨c_3927, c_3928, c_3929, c_3930, c_3931, c_3932, c_3933, c_3934, c_3935⟩ := hw
          exact absurd c_3927 c_3803
        · obtain ⟨c_3936, c_3937, c_3938, c_3939, c_3940, c_3941, c_3942, c_3943, c_3944, c_3945⟩ := hw
          exact absurd c_3936 c_3803
        · obtain ⟨c_3946, c_3947, c_3948, c_3949, c_3950, c_3951, c_3952, c_3953, c_3954, c_3955, c_3956⟩ := hw
          exact absurd c_3946 c_3803
        · obtain ⟨c_3957, c_3958, c_3959, c_3960, c_3961⟩ := hw
          exact absurd c_3957 c_3802
        · obtain ⟨c_3962, c_3963, c_3964, c_3965, c_3966, c_3967⟩ := hw
          exact absurd c_3962 c_3802
        · obtain ⟨c_3968, c_3969, c_3970, c_3971, c_3972, c_3973, c_3974⟩ := hw
          exact absurd c_3968 c_3802
        · obtain ⟨c_3975, c_3976, c_3977, c_3978, c_3979, c_3980, c_3981, c_3982⟩ := hw
          exact absurd c_3975 c_3802
        · obtain ⟨c_3983, c_3984, c_3985, c_3986, c_3987⟩ := hw
          exact absurd c_3983 c_3801
        · obtain ⟨c_3988, c_3989, c_3990, c_3991, c_3992, c_3993⟩ := hw
          exact absurd c_3988 c_3801
        · obtain ⟨c_3994, c_3995, c_3996, c_3997, c_3998, c_3999, c_4000⟩ := hw
          exact absurd c_3994 c_3801
        · obtain ⟨c_4001, c_4002, c_4003, c_4004, c_4005, c_4006, c_4007, c_4008⟩ := hw
          exact absurd c_4001 c_3801
      · obtain ⟨rfl, rfl, hw⟩ := hw
        rcases hw with hw | hw | hw | hw | hw
        · obtain ⟨c_4009, c_4010, c_4011, c_4012, c_4013, c_4014, c_4015, c_4016⟩ := hw
          exact absurd (c_3804.symm.trans c_4009) (by decide)
        · obtain ⟨c_4017, c_4018, c_4019, c_4020, c_4021, c_4022, c_4023, c_4024, c_4025, c_4026⟩ := hw
          exact absurd c_3807 c_4021
        · obtain ⟨c_4027, c_4028, c_4029, c_4030, c_4031, c_4032, c_4033, c_4034, c_4035, c_4036, c_4037⟩ := hw
          exact absurd c_4027 c_3803
        · obtain ⟨c_4038, c_4039, c_4040, c_4041, c_4042, c_4043, c_4044, c_4045⟩ := hw
          exact absurd c_4038 c_3802
        · obtain ⟨c_4046, c_4047, c_4048, c_4049, c_4050, c_4051, c_4052, c_4053⟩ := hw
          exact absurd c_4046 c_3801
    · obtain ⟨c_4054, c_4055, c_4056, c_4057, c_4058, c_4059, c_4060, c_4061⟩ := hw
      obtain ⟨hP1, hD1⟩ := hB
      rw [ht1] at hP1
      obtain ⟨hP, hD⟩ := va_join (wr := [((a 200), f_m a g)]) (w1 := [(o1, .inl (g 1, 1, .inr (.inl (fun _ => 0))))]) hP hD [3, 0, 1] [2] rfl rfl (by decide) (by decide) hk1 hFc hP1 hD1
      have hP : va_P D vwCl [((a 200), f_m a g), (o1, .inl (g 1, 1, .inr (.inl (fun _ => 0))))] H := hP
      have hD : va_D (va_A [] s.heap.size) [((a 200), f_m a g), (o1, .inl (g 1, 1, .inr (.inl (fun _ => 0))))] := hD
      refine lv_istore (lv' := [(6, .int 1), (0, .ref b), (1, .ref (a 0)), (2, .ref (a 200)), (3, .ref o1), (4, .ref o2), (5, .int 0)]) hx hb dL_law_3248 hl (by decide) rfl (fun ls hl => ?_)
      refine lv_aload_n hx hb dL_law_3250 rfl (lv_at hl 3 rfl) ?_
      refine lv_aload_n hx hb dL_law_3251 rfl (lv_at hl 1 rfl) ?_
      refine lv_iload hx hb dL_law_3252 (lv_at hl 6 rfl) ?_
      refine lv_iconst (v := 1) hx hb dL_law_3254 (by decide) ?_
      refine lv_iadd hx hb dL_law_3255 ?_
      refine r_topi (v := 1) (by decide) ?_
      refine va_sld hx hb hX hbl hbA hS (by unfold vp_in; decide) dL_law_3256 ?_
      refine r_topi (v := xs 1) (congrArg xs (by decide)) ?_
      refine lv_i2c (v := ((xs 1).toUInt32 % 65536).toInt32) hx hb dL_law_3257 rfl ?_
      refine lv_aload_n hx hb dL_law_3258 rfl (lv_at hl 1 rfl) ?_
      refine lv_iload hx hb dL_law_3259 (lv_at hl 6 rfl) ?_
      refine lv_iconst (v := 2) hx hb dL_law_3261 (by decide) ?_
      refine lv_iadd hx hb dL_law_3262 ?_
      refine r_topi (v := 2) (by decide) ?_
      refine va_sld hx hb hX hbl hbA hS (by unfold vp_in; decide) dL_law_3263 ?_
      refine r_topi (v := xs 2) (congrArg xs (by decide)) ?_
      refine lv_aload_n hx hb dL_law_3264 rfl (lv_at hl 1 rfl) ?_
      refine lv_iload hx hb dL_law_3265 (lv_at hl 6 rfl) ?_
      refine lv_iconst (v := 3) hx hb dL_law_3267 (by decide) ?_
      refine lv_iadd hx hb dL_law_3268 ?_
      refine r_topi (v := 3) (by decide) ?_
      refine va_sld hx hb hX hbl hbA hS (by unfold vp_in; decide) dL_law_3269 ?_
      refine r_topi (v := xs 3) (congrArg xs (by decide)) ?_
      refine lv_aload_n hx hb dL_law_3270 rfl (lv_at hl 1 rfl) ?_
      refine lv_iload hx hb dL_law_3271 (lv_at hl 6 rfl) ?_
      refine lv_iconst (v := 4) hx hb dL_law_3273 (by decide) ?_
      refine lv_iadd hx hb dL_law_3274 ?_
      refine r_topi (v := 4) (by decide) ?_
      refine va_sld hx hb hX hbl hbA hS (by unfold vp_in; decide) dL_law_3275 ?_
      refine r_topi (v := xs 4) (congrArg xs (by decide)) ?_
      refine lv_aload_n hx hb dL_law_3276 rfl (lv_at hl 1 rfl) ?_
      refine lv_iload hx hb dL_law_3277 (lv_at hl 6 rfl) ?_
      refine lv_iconst (v := 5) hx hb dL_law_3279 (by decide) ?_
      refine lv_iadd hx hb dL_law_3280 ?_
      refine r_topi (v := 5) (by decide) ?_
      refine va_sld hx hb hX hbl hbA hS (by unfold vp_in; decide) dL_law_3281 ?_
      refine r_topi (v := xs 5) (congrArg xs (by decide)) ?_
      have hPc : va_P D vwCl [((a 200), f_m a g)] _ := hP.sub (ws' := [((a 200), f_m a g)]) [0] rfl
      have hDc : va_D (fun q => z0 ≤ q) [((a 200), f_m a g)] := (hD.to hAz).pick (ws' := [((a 200), f_m a g)]) [0] (by decide) rfl
      have hFc := va_free (wc := [((a 200), f_m a g)]) hD hS hA [0] rfl
      refine va_calli (va_runV (As := [.int (((xs 1).toUInt32 % 65536).toInt32), .int (xs 2), .int (xs 3), .int (xs 4), .int (xs 5)]) (rest := []) ⟨hx, hb, hml, hown, ht⟩ (k_X15_marchFinds l D g z0 _ a (((xs 1).toUInt32 % 65536).toInt32) (xs 2) (xs 3) (xs 4) (xs 5) (isC_i2c _)) (cwV 5 ht (gV w_1231 w_1233 w_1234 w_334 w_1232) rfl rfl rfl (by decide +kernel) (le2 rfl rfl)) ⟨PP.blind, va_recv hK.1 hP (ci := 21) (q0 := 0) rfl rfl, PP.mk' hK hZ hz hAz hS hPc hDc⟩ rfl rfl hl.1 rfl (lv_room (Nat.le_of_ble_eq_true rfl)) dL_law_3282 (le2 rfl rfl)) hS (fun q _ h => hFc q h) hFc (fun r u t H locs ht1 hvm hw hB hz1 hk1 hS => ?_)
      rcases hw with hw | hw
      · obtain ⟨rfl, rfl, hw⟩ := hw
        rcases hw with hw | hw | hw | hw | hw | hw | hw | hw | hw | hw | hw | hw | hw | hw | hw | hw | hw | hw | hw | hw | hw | hw | hw | hw | hw | hw | hw | hw | hw | hw | hw | hw
        · obtain ⟨c_4062, c_4063, c_4064, c_4065, c_4066⟩ := hw
          exact absurd c_4057 c_4065
        · obtain ⟨c_4067, c_4068, c_4069, c_4070, c_4071⟩ := hw
          exact absurd c_4057 c_4070
        · obtain ⟨c_4072, c_4073, c_4074, c_4075, c_4076⟩ := hw
          exact absurd c_4057 c_4075
        · obtain ⟨c_4077, c_4078, c_4079, c_4080⟩ := hw
          exact absurd (c_4057.symm.trans c_4077) (by decide)
        · obtain ⟨c_4081, c_4082, c_4083, c_4084, c_4085⟩ := hw
          exact absurd (c_4057.symm.trans c_4081) (by decide)
        · obtain ⟨c_4086, c_4087, c_4088, c_4089, c_4090, c_4091⟩ := hw
          exact absurd (c_4057.symm.trans c_4086) (by decide)
        · obtain ⟨c_4092, c_4093, c_4094, c_4095, c_4096, c_4097, c_4098⟩ := hw
          exact absurd (c_4057.symm.trans c_4092) (by decide)
        · obtain ⟨c_4099, c_4100, c_4101, c_4102, c_4103, c_4104, c_4105, c_4106⟩ := hw
          exact absurd (c_4057.symm.trans c_4099) (by decide)
        · obtain ⟨c_4107, c_4108, c_4109⟩ := hw
          exact absurd c_4109 c_4058
        · obtain ⟨c_4110, c_4111, c_4112, c_4113⟩ := hw
          exact absurd (Int.le_trans (lo_lt c_4113) (up_lt c_4059)) (by decide)
        · obtain ⟨c_4114, c_4115, c_4116, c_4117, c_4118⟩ := hw
          exact absurd c_4118 c_4060
        · obtain ⟨c_4119, c_4120, c_4121, c_4122, c_4123, c_4124⟩ := hw
          obtain ⟨hP1, hD1⟩ := hB
          rw [ht1] at hP1
          obtain ⟨hP, hD⟩ := va_join (wr := [(o1, .inl (g 1, 1, .inr (.inl (fun _ => 0))))]) (w1 := [((a 200), .inr (21, [.int 1, .ref (a 201), .ref (a 202), .ref (a 203), .ref (a 204), .ref (a 205), .ref (a 206), .int 0, .int 0, .int 0, .int 0, .ref (a 208), .ref (a 209), .ref (a 210), .ref (a 211), .ref (a 212), .int 4, .int 12, .int (-1), .int 0, .ref (g 200), .ref (a 213), .int 0, .int 97, .ref (a 214), .ref (a 215), .ref (a 207), .null, .int 0]))]) hP hD [0] [1] rfl rfl (by decide) (by decide) hk1 hFc hP1 hD1
          have hP : va_P D vwCl [(o1, .inl (g 1, 1, .inr (.inl (fun _ => 0)))), ((a 200), .inr (21, [.int 1, .ref (a 201), .ref (a 202), .ref (a 203), .ref (a 204), .ref (a 205), .ref (a 206), .int 0, .int 0, .int 0, .int 0, .ref (a 208), .ref (a 209), .ref (a 210), .ref (a 211), .ref (a 212), .int 4, .int 12, .int (-1), .int 0, .ref (g 200), .ref (a 213), .int 0, .int 97, .ref (a 214), .ref (a 215), .ref (a 207), .null, .int 0]))] H := hP
          have hD : va_D (va_A [] s.heap.size) [(o1, .inl (g 1, 1, .inr (.inl (fun _ => 0)))), ((a 200), .inr (21, [.int 1, .ref (a 201), .ref (a 202), .ref (a 203), .ref (a 204), .ref (a 205), .ref (a 206), .int 0, .int 0, .int 0, .int 0, .ref (a 208), .ref (a 209), .ref (a 210), .ref (a 211), .ref (a 212), .int 4, .int 12, .int (-1), .int 0, .ref (g 200), .ref (a 213), .int 0, .int 97, .ref (a 214), .ref (a 215), .ref (a 207), .null, .int 0]))] := hD
          refine lv_istore (lv' := [(7, .int 0), (6, .int 1), (0, .ref b), (1, .ref (a 0)), (2, .ref (a 200)), (3, .ref o1), (4, .ref o2), (5, .int 0)]) hx hb dL_law_3285 hl (by decide) rfl (fun ls hl => ?_)
          refine lv_aload_n hx hb dL_law_3287 rfl (lv_at hl 4 rfl) ?_
          have hPc : va_P D vwCl [((a 200), .inr (21, [.int 1, .ref (a 201), .ref (a 202), .ref (a 203), .ref (a 204), .ref (a 205), .ref (a 206), .int 0, .int 0, .int 0, .int 0, .ref (a 208), .ref (a 209), .ref (a 210), .ref (a 211), .ref (a 212), .int 4, .int 12, .int (-1), .int 0, .ref (g 200), .ref (a 213), .int 0, .int 97, .ref (a 214), .ref (a 215), .ref (a 207), .null, .int 0]))] _ := hP.sub (ws' := [((a 200), .inr (21, [.int 1, .ref (a 201), .ref (a 202), .ref (a 203), .ref (a 204), .ref (a 205), .ref (a 206), .int 0, .int 0, .int 0, .int 0, .ref (a 208), .ref (a 209), .ref (a 210), .ref (a 211), .ref (a 212), .int 4, .int 12, .int (-1), .int 0, .ref (g 200), .ref (a 213), .int 0, .int 97, .ref (a 214), .ref (a 215), .ref (a 207), .null, .int 0]))]) [1] rfl
          have hDc : va_D (fun q => z0 ≤ q) [((a 200), .inr (21, [.int 1, .ref (a 201), .ref (a 202), .ref (a 203), .ref (a 204), .ref (a 205), .ref (a 206), .int 0, .int 0, .int 0, .int 0, .ref (a 208), .ref (a 209), .ref (a 210), .ref (a 211), .ref (a 212), .int 4, .int 12, .int (-1), .int 0, .ref (g 200), .ref (a 213), .int 0, .int 97, .ref (a 214), .ref (a 215), .ref (a 207), .null, .int 0]))] := (hD.to hAz).pick (ws' := [((a 200), .inr (21, [.int 1, .ref (a 201), .ref (a 202), .ref (a 203), .ref (a 204), .ref (a 205), .ref (a 206), .int 0, .int 0, .int 0, .int 0, .ref (a 208), .ref (a 209), .ref (a 210), .ref (a 211), .ref (a 212), .int 4, .int 12, .int (-1), .int 0, .ref (g 200), .ref (a 213), .int 0, .int 97, .ref (a 214), .ref (a 215), .ref (a 207), .null, .int 0]))]) [1] (by decide) rfl
          have hFc := va_free (wc := [((a 200), .inr (21, [.int 1, .ref (a 201), .ref (a 202), .ref (a 203), .ref (a 204), .ref (a 205), .ref (a 206), .int 0, .int 0, .int 0, .int 0, .ref (a 208), .ref (a 209), .ref (a 210), .ref (a 211), .ref (a 212), .int 4, .int 12, .int (-1), .int 0, .ref (g 200), .ref (a 213), .int 0, .int 97, .ref (a 214), .ref (a 215), .ref (a 207), .null, .int 0]))]) hD hS hA [1] rfl
          refine va_calli (va_runV (As := []) (rest := []) ⟨hx, hb, hml, hown, ht⟩ (k_X15_thrown_v2 l D g z0 _ a) (cwV 0 ht (gV w_772 w_774 w_775 w_334 w_773) rfl rfl rfl (by decide +kernel) (le2 rfl rfl)) ⟨PP.blind, va_recv hK.1 hP (ci := 21) (q0 := 1) rfl rfl, PP.mk' hK hZ hz hAz hS hPc hDc⟩ rfl rfl hl.1 rfl (lv_room (Nat.le_of_ble_eq_true rfl)) dL_law_3288 (le2 rfl rfl)) hS (fun q _ h => hFc q h) hFc (fun r u t H locs ht1 hvm hw hB hz1 hk1 hS => ?_)
          obtain ⟨rfl, hw⟩ := hw
          obtain ⟨hP1, hD1⟩ := hB
          rw [ht1] at hP1
          obtain ⟨hP, hD⟩ := va_join (wr := [(o1, .inl (g 1, 1, .inr (.inl (fun _ => 0))))]) (w1 := [((a 200), .inr (21, [.int 1, .ref (a 201), .ref (a 202), .ref (a 203), .ref (a 204), .ref (a 205), .ref (a 206), .int 0, .int 0, .int 0, .int 0, .ref (a 208), .ref (a 209), .ref (a 210), .ref (a 211), .ref (a 212), .int 4, .int 12, .int (-1), .int 0, .ref (g 200), .ref (a 213), .int 0, .int 97, .ref (a 214), .ref (a 215), .ref (a 207), .null, .int 0]))]) hP hD [1] [0] rfl rfl (by decide) (by decide) hk1 hFc hP1 hD1
          have hP : va_P D vwCl [(o1, .inl (g 1, 1, .inr (.inl (fun _ => 0)))), ((a 200), .inr (21, [.int 1, .ref (a 201), .ref (a 202), .ref (a 203), .ref (a 204), .ref (a 205), .ref (a 206), .int 0, .int 0, .int 0, .int 0, .ref (a 208), .ref (a 209), .ref (a 210), .ref (a 211), .ref (a 212), .int 4, .int 12, .int (-1), .int 0, .ref (g 200), .ref (a 213), .int 0, .int 97, .ref (a 214), .ref (a 215), .ref (a 207), .null, .int 0]))] H := hP
          have hD : va_D (va_A [] s.heap.size) [(o1, .inl (g 1, 1, .inr (.inl (fun _ => 0)))), ((a 200), .inr (21, [.int 1, .ref (a 201), .ref (a 202), .ref (a 203), .ref (a 204), .ref (a 205), .ref (a 206), .int 0, .int 0, .int 0, .int 0, .ref (a 208), .ref (a 209), .ref (a 210), .ref (a 211), .ref (a 212), .int 4, .int 12, .int (-1), .int 0, .ref (g 200), .ref (a 213), .int 0, .int 97, .ref (a 214), .ref (a 215), .ref (a 207), .null, .int 0]))] := hD
          refine lv_iload hx hb dL_law_3291 (lv_at hl 1 rfl) ?_
          refine lv_icmp_eq (tgt := 3298) hx hb dL_law_3293 (by decide) (fun c_4125 => ?_) (fun c_4125 => ?_)
          · refine lv_iload hx hb dL_law_3298 (lv_at hl 1 rfl) ?_
            refine lv_if_ne (tgt := 3322) hx hb dL_law_3300 (by decide) (fun c_4126 => ?_) (fun c_4126 => ?_)
            · refine lv_goto (tgt := 4264) hx hb dL_law_3322 (by decide) ?_
              refine W.widen (k := 200 + 300) (n := 8000 + 2000) (Nat.le_of_ble_eq_true rfl) (Nat.le_of_ble_eq_true rfl) ?_
              exact kk _ _ _ hS (lv_sub hl [7, 2] rfl)
            · exact absurd c_4126 (by decide)
          · exact absurd c_4125 (by decide)
        · obtain ⟨c_4127, c_4128, c_4129, c_4130, c_4131, c_4132, c_4133⟩ := hw
          exact absurd (Int.le_trans (lo_le c_4061) (up_nlt c_4132)) (by decide)
        · obtain ⟨c_4134, c_4135, c_4136, c_4137, c_4138, c_4139, c_4140, c_4141, c_4142⟩ := hw
          exact absurd (Int.le_trans (lo_le c_4061) (up_nlt c_4139)) (by decide)
        · obtain ⟨c_4143, c_4144, c_4145, c_4146, c_4147, c_4148, c_4149, c_4150, c_4151, c_4152⟩ := hw
          exact absurd (Int.le_trans (lo_le c_4061) (up_nlt c_4148)) (by decide)
        · obtain ⟨c_4153, c_4154⟩ := hw
          exact absurd c_4153 c_4056
        · obtain ⟨c_4155, c_4156, c_4157⟩ := hw
          exact absurd c_4155 c_4056
        · obtain ⟨c_4158, c_4159, c_4160, c_4161⟩ := hw
          exact absurd c_4158 c_4056
        · obtain ⟨c_4162, c_4163, c_4164, c_4165, c_4166⟩ := hw
          exact absurd c_4162 c_4056
        · obtain ⟨c_4167, c_4168, c_4169, c_4170, c_4171, c_4172⟩ := hw
          exact absurd c_4167 c_4056
        · obtain ⟨c_4173, c_4174, c_4175, c_4176, c_4177, c_4178, c_4179, c_4180⟩ := hw
          exact absurd c_4173 c_4056
        · obtain ⟨c_4181, c_4182, c_4183, c_4184, c_4185, c_4186, c_4187, c_4188, c_4189⟩ := hw
          exact absurd c_4181 c_4056
        · obtain ⟨c_4190, c_4191, c_4192, c_4193, c_4194, c_4195, c_4196, c_4197, c_4198, c_4199⟩ := hw
          exact absurd c_4190 c_4056
        · obtain ⟨c_4200, c_4201, c_4202, c_4203, c_4204, c_4205, c_4206, c_4207, c_4208, c_4209, c_4210⟩ := hw
          exact absurd c_4200 c_4056
        · obtain ⟨c_4211, c_4212, c_4213, c_4214, c_4215⟩ := hw
          exact absurd c_4211 c_4055
        · obtain ⟨c_4216, c_4217, c_4218, c_4219, c_4220, c_4221⟩ := hw
          exact absurd c_4216 c_4055
        · obtain ⟨c_4222, c_4223, c_4224, c_4225, c_4226, c_4227, c_4228⟩ := hw
          exact absurd c_4222 c_4055
        · obtain ⟨c_4229, c_4230, c_4231, c_4232, c_4233, c_4234, c_4235, c_4236⟩ := hw
          exact absurd c_4229 c_4055
        · obtain ⟨c_4237, c_4238, c_4239, c_4240, c_4241⟩ := hw
          exact absurd c_4237 c_4054
        · obtain ⟨c_4242, c_4243, c_4244, c_4245, c_4246, c_4247⟩ := hw
          exact absurd c_4242 c_4054
        · obtain ⟨c_4248, c_4249, c_4250, c_4251, c_4252, c_4253, c_4254⟩ := hw
          exact absurd c_4248 c_4054
        · obtain ⟨c_4255, c_4256, c_4257, c_4258, c_4259, c_4260, c_4261, c_4262⟩ := hw
          exact absurd c_4255 c_4054
      · obtain ⟨rfl, rfl, hw⟩ := hw
        rcases hw with hw | hw | hw | hw | hw
        · obtain ⟨c_4263, c_4264, c_4265, c_4266, c_4267, c_4268, c_4269, c_4270⟩ := hw
          exact absurd (c_4057.symm.trans c_4263) (by decide)
        · obtain ⟨c_4271, c_4272, c_4273, c_4274, c_4275, c_4276, c_4277, c_4278, c_4279, c_4280⟩ := hw
          exact absurd (Int.le_trans (lo_le c_4061) (up_nlt c_4276)) (by decide)
        · obtain ⟨c_4281, c_4282, c_4283, c_4284, c_4285, c_4286, c_4287, c_4288, c_4289, c_4290, c_4291⟩ := hw
          exact absurd c_4281 c_4056
        · obtain ⟨c_4292, c_4293, c_4294, c_4295, c_4296, c_4297, c_4298, c_4299⟩ := hw
          exact absurd c_4292 c_4055
        · obtain ⟨c_4300, c_4301, c_4302, c_4303, c_4304, c_4305, c_4306, c_4307⟩ := hw
          exact absurd c_4300 c_4054
    · obtain ⟨c_4308, c_4309, c_4310, c_4311, c_4312, c_4313, c_4314, c_4315, c_4316, c_4317, c_4318, c_4319⟩ := hw
      obtain ⟨hP1, hD1⟩ := hB
      rw [ht1] at hP1
      obtain ⟨hP, hD⟩ := va_join (wr := [((a 200), f_m a g)]) (w1 := [(o1, .inl (g 1, 1, .inr (.inl (fun _ => 0))))]) hP hD [3, 0, 1] [2] rfl rfl (by decide) (by decide) hk1 hFc hP1 hD1
      have hP : va_P D vwCl [((a 200), f_m a g), (o1, .inl (g 1, 1, .inr (.inl (fun _ => 0))))] H := hP
      have hD : va_D (va_A [] s.heap.size) [((a 200), f_m a g), (o1, .inl (g 1, 1, .inr (.inl (fun _ => 0))))] := hD
      refine lv_istore (lv' := [(6, .int 1), (0, .ref b), (1, .ref (a 0)), (2, .ref (a 200)), (3, .ref o1), (4, .ref o2), (5, .int 0)]) hx hb dL_law_3248 hl (by decide) rfl (fun ls hl => ?_)
      refine lv_aload_n hx hb dL_law_3250 rfl (lv_at hl 3 rfl) ?_
      refine lv_aload_n hx hb dL_law_3251 rfl (lv_at hl 1 rfl) ?_
      refine lv_iload hx hb dL_law_3252 (lv_at hl 6 rfl) ?_
      refine lv_iconst (v := 1) hx hb dL_law_3254 (by decide) ?_
      refine lv_iadd hx hb dL_law_3255 ?_
      refine r_topi (v := 1) (by decide) ?_
      refine va_sld hx hb hX hbl hbA hS (by unfold vp_in; decide) dL_law_3256 ?_
      refine r_topi (v := xs 1) (congrArg xs (by decide)) ?_
      refine lv_i2c (v := ((xs 1).toUInt32 % 65536).toInt32) hx hb dL_law_3257 rfl ?_
      refine lv_aload_n hx hb dL_law_3258 rfl (lv_at hl 1 rfl) ?_
      refine lv_iload hx hb dL_law_3259 (lv_at hl 6 rfl) ?_
      refine lv_iconst (v := 2) hx hb dL_law_3261 (by decide) ?_
      refine lv_iadd hx hb dL_law_3262 ?_
      refine r_topi (v := 2) (by decide) ?_
      refine va_sld hx hb hX hbl hbA hS (by unfold vp_in; decide) dL_law_3263 ?_
      refine r_topi (v := xs 2) (congrArg xs (by decide)) ?_
      refine lv_aload_n hx hb dL_law_3264 rfl (lv_at hl 1 rfl) ?_
      refine lv_iload hx hb dL_law_3265 (lv_at hl 6 rfl) ?_
      refine lv_iconst (v := 3) hx hb dL_law_3267 (by decide) ?_
      refine lv_iadd hx hb dL_law_3268 ?_
      refine r_topi (v := 3) (by decide) ?_
      refine va_sld hx hb hX hbl hbA hS (by unfold vp_in; decide) dL_law_3269 ?_
      refine r_topi (v := xs 3) (congrArg xs (by decide)) ?_
      refine lv_aload_n hx hb dL_law_3270 rfl (lv_at hl 1 rfl) ?_
      refine lv_iload hx hb dL_law_3271 (lv_at hl 6 rfl) ?_
      refine lv_iconst (v := 4) hx hb dL_law_3273 (by decide) ?_
      refine lv_iadd hx hb dL_law_3274 ?_
      refine r_topi (v := 4) (by decide) ?_
      refine va_sld hx hb hX hbl hbA hS (by unfold vp_in; decide) dL_law_3275 ?_
      refine r_topi (v := xs 4) (congrArg xs (by decide)) ?_
      refine lv_aload_n hx hb dL_law_3276 rfl (lv_at hl 1 rfl) ?_
      refine lv_iload hx hb dL_law_3277 (lv_at hl 6 rfl) ?_
      refine lv_iconst (v := 5) hx hb dL_law_3279 (by decide) ?_
      refine lv_iadd hx hb dL_law_3280 ?_
      refine r_topi (v := 5) (by decide) ?_
      refine va_sld hx hb hX hbl hbA hS (by unfold vp_in; decide) dL_law_3281 ?_
      refine r_topi (v := xs 5) (congrArg xs (by decide)) ?_
      have hPc : va_P D vwCl [((a 200), f_m a g)] _ := hP.sub (ws' := [((a 200), f_m a g)]) [0] rfl
      have hDc : va_D (fun q => z0 ≤ q) [((a 200), f_m a g)] := (hD.to hAz).pick (ws' := [((a 200), f_m a g)]) [0] (by decide) rfl
      have hFc := va_free (wc := [((a 200), f_m a g)]) hD hS hA [0] rfl
      refine va_calli (va_runV (As := [.int (((xs 1).toUInt32 % 65536).toInt32), .int (xs 2), .int (xs 3), .int (xs 4), .int (xs 5)]) (rest := []) ⟨hx, hb, hml, hown, ht⟩ (k_X15_marchFinds l D g z0 _ a (((xs 1).toUInt32 % 65536).toInt32) (xs 2) (xs 3) (xs 4) (xs 5) (isC_i2c _)) (cwV 5 ht (gV w_1231 w_1233 w_1234 w_334 w_1232) rfl rfl rfl (by decide +kernel) (le2 rfl rfl)) ⟨PP.blind, va_recv hK.1 hP (ci := 21) (q0 := 0) rfl rfl, PP.mk' hK hZ hz hAz hS hPc hDc⟩ rfl rfl hl.1 rfl (lv_room (Nat.le_of_ble_eq_true rfl)) dL_law_3282 (le2 rfl rfl)) hS (fun q _ h => hFc q h) hFc (fun r u t H locs ht1 hvm hw hB hz1 hk1 hS => ?_)
      rcases hw with hw | hw
      · obtain ⟨rfl, rfl, hw⟩ := hw
        rcases hw with hw | hw | hw | hw | hw | hw | hw | hw | hw | hw | hw | hw | hw | hw | hw | hw | hw | hw | hw | hw | hw | hw | hw | hw | hw | hw | hw | hw | hw | hw | hw | hw
        · obtain ⟨c_4320, c_4321, c_4322, c_4323, c_4324⟩ := hw
          exact absurd c_4311 c_4323
        · obtain ⟨c_4325, c_4326, c_4327, c_4328, c_4329⟩ := hw
          exact absurd c_4311 c_4328
        · obtain ⟨c_4330, c_4331, c_4332, c_4333, c_4334⟩ := hw
          exact absurd c_4311 c_4333
        · obtain ⟨c_4335, c_4336, c_4337, c_4338⟩ := hw
          exact absurd (c_4311.symm.trans c_4335) (by decide)
        · obtain ⟨c_4339, c_4340, c_4341, c_4342, c_4343⟩ := hw
          exact absurd (c_4311.symm.trans c_4339) (by decide)
        · obtain ⟨c_4344, c_4345, c_4346, c_4347, c_4348, c_4349⟩ := hw
          exact absurd (c_4311.symm.trans c_4344) (by decide)
        · obtain ⟨c_4350, c_4351, c_4352, c_4353, c_4354, c_4355, c_4356⟩ := hw
          exact absurd (c_4311.symm.trans c_4350) (by decide)
        · obtain ⟨c_4357, c_4358, c_4359, c_4360, c_4361, c_4362, c_4363, c_4364⟩ := hw
          exact absurd (c_4311.symm.trans c_4357) (by decide)
        · obtain ⟨c_4365, c_4366, c_4367⟩ := hw
          exact absurd c_4367 c_4312
        · obtain ⟨c_4368, c_4369, c_4370, c_4371⟩ := hw
          exact absurd (Int.le_trans (lo_lt c_4371) (up_lt c_4313)) (by decide)
        · obtain ⟨c_4372, c_4373, c_4374, c_4375, c_4376⟩ := hw
          exact absurd c_4376 c_4314
        · obtain ⟨c_4377, c_4378, c_4379, c_4380, c_4381, c_4382⟩ := hw
          exact absurd (Int.le_trans (lo_lt c_4382) (up_nle c_4315)) (by decide)
        · obtain ⟨c_4383, c_4384, c_4385, c_4386, c_4387, c_4388, c_4389⟩ := hw
          exact absurd c_4389 c_4316
        · obtain ⟨c_4390, c_4391, c_4392, c_4393, c_4394, c_4395, c_4396, c_4397, c_4398⟩ := hw
          obtain ⟨hP1, hD1⟩ := hB
          rw [ht1] at hP1
          obtain ⟨hP, hD⟩ := va_join (wr := [(o1, .inl (g 1, 1, .inr (.inl (fun _ => 0))))]) (w1 := [((a 200), .inr (21, [.int 1, .ref (a 201), .ref (a 202), .ref (a 203), .ref (a 204), .ref (a 205), .ref (a 206), .int 0, .int 0, .int 0, .int 0, .ref (a 208), .ref (a 209), .ref (a 210), .ref (a 211), .ref (a 212), .int 4, .int 12, .int (-1), .int 0, .ref (g 200), .ref (a 213), .int 0, .int 97, .ref (a 214), .ref (a 215), .ref (a 207), .null, .int 0]))]) hP hD [0] [1] rfl rfl (by decide) (by decide) hk1 hFc hP1 hD1
          have hP : va_P D vwCl [(o1, .inl (g 1, 1, .inr (.inl (fun _ => 0)))), ((a 200), .inr (21, [.int 1, .ref (a 201), .ref (a 202), .ref (a 203), .ref (a 204), .ref (a 205), .ref (a 206), .int 0, .int 0, .int 0, .int 0, .ref (a 208), .ref (a 209), .ref (a 210), .ref (a 211), .ref (a 212), .int 4, .int 12, .int (-1), .int 0, .ref (g 200), .ref (a 213), .int 0, .int 97, .ref (a 214), .ref (a 215), .ref (a 207), .null, .int 0]))] H := hP
          have hD : va_D (va_A [] s.heap.size) [(o1, .inl (g 1, 1, .inr (.inl (fun _ => 0)))), ((a 200), .inr (21, [.int 1, .ref (a 201), .ref (a 202), .ref (a 203), .ref (a 204), .ref (a 205), .ref (a 206), .int 0, .int 0, .int 0, .int 0, .ref (a 208), .ref (a 209), .ref (a 210), .ref (a 211), .ref (a 212), .int 4, .int 12, .int (-1), .int 0, .ref (g 200), .ref (a 213), .int 0, .int 97, .ref (a 214), .ref (a 215), .ref (a 207), .null, .int 0]))] := hD
          refine lv_istore (lv' := [(7, .int 0), (6, .int 1), (0, .ref b), (1, .ref (a 0)), (2, .ref (a 200)), (3, .ref o1), (4, .ref o2), (5, .int 0)]) hx hb dL_law_3285 hl (by decide) rfl (fun ls hl => ?_)
          refine lv_aload_n hx hb dL_law_3287 rfl (lv_at hl 4 rfl) ?_
          have hPc : va_P D vwCl [((a 200), .inr (21, [.int 1, .ref (a 201), .ref (a 202), .ref (a 203), .ref (a 204), .ref (a 205), .ref (a 206), .int 0, .int 0, .int 0, .int 0, .ref (a 208), .ref (a 209), .ref (a 210), .ref (a 211), .ref (a 212), .int 4, .int 12, .int (-1), .int 0, .ref (g 200), .ref (a 213), .int 0, .int 97, .ref (a 214), .ref (a 215), .ref (a 207), .null, .int 0]))] _ := hP.sub (ws' := [((a 200), .inr (21, [.int 1, .ref (a 201), .ref (a 202), .ref (a 203), .ref (a 204), .ref (a 205), .ref (a 206), .int 0, .int 0, .int 0, .int 0, .ref (a 208), .ref (a 209), .ref (a 210), .ref (a 211), .ref (a 212), .int 4, .int 12, .int (-1), .int 0, .ref (g 200), .ref (a 213), .int 0, .int 97, .ref (a 214), .ref (a 215), .ref (a 207), .null, .int 0]))]) [1] rfl
          have hDc : va_D (fun q => z0 ≤ q) [((a 200), .inr (21, [.int 1, .ref (a 201), .ref (a 202), .ref (a 203), .ref (a 204), .ref (a 205), .ref (a 206), .int 0, .int 0, .int 0, .int 0, .ref (a 208), .ref (a 209), .ref (a 210), .ref (a 211), .ref (a 212), .int 4, .int 12, .int (-1), .int 0, .ref (g 200), .ref (a 213), .int 0, .int 97, .ref (a 214), .ref (a 215), .ref (a 207), .null, .int 0]))] := (hD.to hAz).pick (ws' := [((a 200), .inr (21, [.int 1, .ref (a 201), .ref (a 202), .ref (a 203), .ref (a 204), .ref (a 205), .ref (a 206), .int 0, .int 0, .int 0, .int 0, .ref (a 208), .ref (a 209), .ref (a 210), .ref (a 211), .ref (a 212), .int 4, .int 12, .int (-1), .int 0, .ref (g 200), .ref (a 213), .int 0, .int 97, .ref (a 214), .ref (a 215), .ref (a 207), .null, .int 0]))]) [1] (by decide) rfl
          have hFc := va_free (wc := [((a 200), .inr (21, [.int 1, .ref (a 201), .ref (a 202), .ref (a 203), .ref (a 204), .ref (a 205), .ref (a 206), .int 0, .int 0, .int 0, .int 0, .ref (a 208), .ref (a 209), .ref (a 210), .ref (a 211), .ref (a 212), .int 4, .int 12, .int (-1), .int 0, .ref (g 200), .ref (a 213), .int 0, .int 97, .ref (a 214), .ref (a 215), .ref (a 207), .null, .int 0]))]) hD hS hA [1] rfl
          refine va_calli (va_runV (As := []) (rest := []) ⟨hx, hb, hml, hown, ht⟩ (k_X15_thrown_v2 l D g z0 _ a) (cwV 0 ht (gV w_772 w_774 w_775 w_334 w_773) rfl rfl rfl (by decide +kernel) (le2 rfl rfl)) ⟨PP.blind, va_recv hK.1 hP (ci := 21) (q0 := 1) rfl rfl, PP.mk' hK hZ hz hAz hS hPc hDc⟩ rfl rfl hl.1 rfl (lv_room (Nat.le_of_ble_eq_true rfl)) dL_law_3288 (le2 rfl rfl)) hS (fun q _ h => hFc q h) hFc (fun r u t H locs ht1 hvm hw hB hz1 hk1 hS => ?_)
          obtain ⟨rfl, hw⟩ := hw
          obtain ⟨hP1, hD1⟩ := hB
          rw [ht1] at hP1
          obtain ⟨hP, hD⟩ := va_join (wr := [(o1, .inl (g 1, 1, .inr (.inl (fun _ => 0))))]) (w1 := [((a 200), .inr (21, [.int 1, .ref (a 201), .ref (a 202), .ref (a 203), .ref (a 204), .ref (a 205), .ref (a 206), .int 0, .int 0, .int 0, .int 0, .ref (a 208), .ref (a 209), .ref (a 210), .ref (a 211), .ref (a 212), .int 4, .int 12, .int (-1), .int 0, .ref (g 200), .ref (a 213), .int 0, .int 97, .ref (a 214), .ref (a 215), .ref (a 207), .null, .int 0]))]) hP hD [1] [0] rfl rfl (by decide) (by decide) hk1 hFc hP1 hD1
          have hP : va_P D vwCl [(o1, .inl (g 1, 1, .inr (.inl (fun _ => 0)))), ((a 200), .inr (21, [.int 1, .ref (a 201), .ref (a 202), .ref (a 203), .ref (a 204), .ref (a 205), .ref (a 206), .int 0, .int 0, .int 0, .int 0, .ref (a 208), .ref (a 209), .ref (a 210), .ref (a 211), .ref (a 212), .int 4, .int 12, .int (-1), .int 0, .ref (g 200), .ref (a 213), .int 0, .int 97, .ref (a 214), .ref (a 215), .ref (a 207), .null, .int 0]))] H := hP
          have hD : va_D (va_A [] s.heap.size) [(o1, .inl (g 1, 1, .inr (.inl (fun _ => 0)))), ((a 200), .inr (21, [.int 1, .ref (a 201), .ref (a 202), .ref (a 203), .ref (a 204), .ref (a 205), .ref (a 206), .int 0, .int 0, .int 0, .int 0, .ref (a 208), .ref (a 209), .ref (a 210), .ref (a 211), .ref (a 212), .int 4, .int 12, .int (-1), .int 0, .ref (g 200), .ref (a 213), .int 0, .int 97, .ref (a 214), .ref (a 215), .ref (a 207), .null, .int 0]))] := hD
          refine lv_iload hx hb dL_law_3291 (lv_at hl 1 rfl) ?_
          refine lv_icmp_eq (tgt := 3298) hx hb dL_law_3293 (by decide) (fun c_4399 => ?_) (fun c_4399 => ?_)
          · refine lv_iload hx hb dL_law_3298 (lv_at hl 1 rfl) ?_
            refine lv_if_ne (tgt := 3322) hx hb dL_law_3300 (by decide) (fun c_4400 => ?_) (fun c_4400 => ?_)
            · refine lv_goto (tgt := 4264) hx hb dL_law_3322 (by decide) ?_
              refine W.widen (k := 200 + 300) (n := 8000 + 2000) (Nat.le_of_ble_eq_true rfl) (Nat.le_of_ble_eq_true rfl) ?_
              exact kk _ _ _ hS (lv_sub hl [7, 2] rfl)
            · exact absurd c_4400 (by decide)
          · exact absurd c_4399 (by decide)
        · obtain ⟨c_4401, c_4402, c_4403, c_4404, c_4405, c_4406, c_4407, c_4408, c_4409, c_4410⟩ := hw
          obtain ⟨hP1, hD1⟩ := hB
          rw [ht1] at hP1
          obtain ⟨hP, hD⟩ := va_join (wr := [(o1, .inl (g 1, 1, .inr (.inl (fun _ => 0))))]) (w1 := [((a 200), .inr (21, [.int 1, .ref (a 201), .ref (a 202), .ref (a 203), .ref (a 204), .ref (a 205), .ref (a 206), .int 0, .int 0, .int 0, .int 0, .ref (a 208), .ref (a 209), .ref (a 210), .ref (a 211), .ref (a 212), .int 4, .int 12, .int (-1), .int 0, .ref (g 200), .ref (a 213), .int 0, .int 97, .ref (a 214), .ref (a 215), .ref (a 207), .null, .int 0]))]) hP hD [0] [1] rfl rfl (by decide) (by decide) hk1 hFc hP1 hD1
          have hP : va_P D vwCl [(o1, .inl (g 1, 1, .inr (.inl (fun _ => 0)))), ((a 200), .inr (21, [.int 1, .ref (a 201), .ref (a 202), .ref (a 203), .ref (a 204), .ref (a 205), .ref (a 206), .int 0, .int 0, .int 0, .int 0, .ref (a 208), .ref (a 209), .ref (a 210), .ref (a 211), .ref (a 212), .int 4, .int 12, .int (-1), .int 0, .ref (g 200), .ref (a 213), .int 0, .int 97, .ref (a 214), .ref (a 215), .ref (a 207), .null, .int 0]))] H := hP
          have hD : va_D (va_A [] s.heap.size) [(o1, .inl (g 1, 1, .inr (.inl (fun _ => 0)))), ((a 200), .inr (21, [.int 1, .ref (a 201), .ref (a 202), .ref (a 203), .ref (a 204), .ref (a 205), .ref (a 206), .int 0, .int 0, .int 0, .int 0, .ref (a 208), .ref (a 209), .ref (a 210), .ref (a 211), .ref (a 212), .int 4, .int 12, .int (-1), .int 0, .ref (g 200), .ref (a 213), .int 0, .int 97, .ref (a 214), .ref (a 215), .ref (a 207), .null, .int 0]))] := hD
          refine lv_istore (lv' := [(7, .int 0), (6, .int 1), (0, .ref b), (1, .ref (a 0)), (2, .ref (a 200)), (3, .ref o1), (4, .ref o2), (5, .int 0)]) hx hb dL_law_3285 hl (by decide) rfl (fun ls hl => ?_)
          refine lv_aload_n hx hb dL_law_3287 rfl (lv_at hl 4 rfl) ?_
          have hPc : va_P D vwCl [((a 200), .inr (21, [.int 1, .ref (a 201), .ref (a 202), .ref (a 203), .ref (a 204), .ref (a 205), .ref (a 206), .int 0, .int 0, .int 0, .int 0, .ref (a 208), .ref (a 209), .ref (a 210), .ref (a 211), .ref (a 212), .int 4, .int 12, .int (-1), .int 0, .ref (g 200), .ref (a 213), .int 0, .int 97, .ref (a 214), .ref (a 215), .ref (a 207), .null, .int 0]))] _ := hP.sub (ws' := [((a 200), .inr (21, [.int 1, .ref (a 201), .ref (a 202), .ref (a 203), .ref (a 204), .ref (a 205), .ref (a 206), .int 0, .int 0, .int 0, .int 0, .ref (a 208), .ref (a 209), .ref (a 210), .ref (a 211), .ref (a 212), .int 4, .int 12, .int (-1), .int 0, .ref (g 200), .ref (a 213), .int 0, .int 97, .ref (a 214), .ref (a 215), .ref (a 207), .null, .int 0]))]) [1] rfl
          have hDc : va_D (fun q => z0 ≤ q) [((a 200), .inr (21, [.int 1, .ref (a 201), .ref (a 202), .ref (a 203), .ref (a 204), .ref (a 205), .ref (a 206), .int 0, .int 0, .int 0, .int 0, .ref (a 208), .ref (a 209), .ref (a 210), .ref (a 211), .ref (a 212), .int 4, .int 12, .int (-1), .int 0, .ref (g 200), .ref (a 213), .int 0, .int 97, .ref (a 214), .ref (a 215), .ref (a 207), .null, .int 0]))] := (hD.to hAz).pick (ws' := [((a 200), .inr (21, [.int 1, .ref (a 201), .ref (a 202), .ref (a 203), .ref (a 204), .ref (a 205), .ref (a 206), .int 0, .int 0, .int 0, .int 0, .ref (a 208), .ref (a 209), .ref (a 210), .ref (a 211), .ref (a 212), .int 4, .int 12, .int (-1), .int 0, .ref (g 200), .ref (a 213), .int 0, .int 97, .ref (a 214), .ref (a 215), .ref (a 207), .null, .int 0]))]) [1] (by decide) rfl
          have hFc := va_free (wc := [((a 200), .inr (21, [.int 1, .ref (a 201), .ref (a 202), .ref (a 203), .ref (a 204), .ref (a 205), .ref (a 206), .int 0, .int 0, .int 0, .int 0, .ref (a 208), .ref (a 209), .ref (a 210), .ref (a 211), .ref (a 212), .int 4, .int 12, .int (-1), .int 0, .ref (g 200), .ref (a 213), .int 0, .int 97, .ref (a 214), .ref (a 215), .ref (a 207), .null, .int 0]))]) hD hS hA [1] rfl
          refine va_calli (va_runV (As := []) (rest := []) ⟨hx, hb, hml, hown, ht⟩ (k_X15_thrown_v2 l D g z0 _ a) (cwV 0 ht (gV w_772 w_774 w_775 w_334 w_773) rfl rfl rfl (by decide +kernel) (le2 rfl rfl)) ⟨PP.blind, va_recv hK.1 hP (ci := 21) (q0 := 1) rfl rfl, PP.mk' hK hZ hz hAz hS hPc hDc⟩ rfl rfl hl.1 rfl (lv_room (Nat.le_of_ble_eq_true rfl)) dL_law_3288 (le2 rfl rfl)) hS (fun q _ h => hFc q h) hFc (fun r u t H locs ht1 hvm hw hB hz1 hk1 hS => ?_)
          obtain ⟨rfl, hw⟩ := hw
          obtain ⟨hP1, hD1⟩ := hB
          rw [ht1] at hP1
          obtain ⟨hP, hD⟩ := va_join (wr := [(o1, .inl (g 1, 1, .inr (.inl (fun _ => 0))))]) (w1 := [((a 200), .inr (21, [.int 1, .ref (a 201), .ref (a 202), .ref (a 203), .ref (a 204), .ref (a 205), .ref (a 206), .int 0, .int 0, .int 0, .int 0, .ref (a 208), .ref (a 209), .ref (a 210), .ref (a 211), .ref (a 212), .int 4, .int 12, .int (-1), .int 0, .ref (g 200), .ref (a 213), .int 0, .int 97, .ref (a 214), .ref (a 215), .ref (a 207), .null, .int 0]))]) hP hD [1] [0] rfl rfl (by decide) (by decide) hk1 hFc hP1 hD1
          have hP : va_P D vwCl [(o1, .inl (g 1, 1, .inr (.inl (fun _ => 0)))), ((a 200), .inr (21, [.int 1, .ref (a 201), .ref (a 202), .ref (a 203), .ref (a 204), .ref (a 205), .ref (a 206), .int 0, .int 0, .int 0, .int 0, .ref (a 208), .ref (a 209), .ref (a 210), .ref (a 211), .ref (a 212), .int 4, .int 12, .int (-1), .int 0, .ref (g 200), .ref (a 213), .int 0, .int 97, .ref (a 214), .ref (a 215), .ref (a 207), .null, .int 0]))] H := hP
          have hD : va_D (va_A [] s.heap.size) [(o1, .inl (g 1, 1, .inr (.inl (fun _ => 0)))), ((a 200), .inr (21, [.int 1, .ref (a 201), .ref (a 202), .ref (a 203), .ref (a 204), .ref (a 205), .ref (a 206), .int 0, .int 0, .int 0, .int 0, .ref (a 208), .ref (a 209), .ref (a 210), .ref (a 211), .ref (a 212), .int 4, .int 12, .int (-1), .int 0, .ref (g 200), .ref (a 213), .int 0, .int 97, .ref (a 214), .ref (a 215), .ref (a 207), .null, .int 0]))] := hD
          refine lv_iload hx hb dL_law_3291 (lv_at hl 1 rfl) ?_
          refine lv_icmp_eq (tgt := 3298) hx hb dL_law_3293 (by decide) (fun c_4411 => ?_) (fun c_4411 => ?_)
          · refine lv_iload hx hb dL_law_3298 (lv_at hl 1 rfl) ?_
            refine lv_if_ne (tgt := 3322) hx hb dL_law_3300 (by decide) (fun c_4412 => ?_) (fun c_4412 => ?_)
            · refine lv_goto (tgt := 4264) hx hb dL_law_3322 (by decide) ?_
              refine W.widen (k := 200 + 300) (n := 8000 + 2000) (Nat.le_of_ble_eq_true rfl) (Nat.le_of_ble_eq_true rfl) ?_
              exact kk _ _ _ hS (lv_sub hl [7, 2] rfl)
            · exact absurd c_4412 (by decide)
          · exact absurd c_4411 (by decide)
        · obtain ⟨c_4413, c_4414⟩ := hw
          exact absurd c_4413 c_4310
        · obtain ⟨c_4415, c_4416, c_4417⟩ := hw
          exact absurd c_4415 c_4310
        · obtain ⟨c_4418, c_4419, c_4420, c_4421⟩ := hw
          exact absurd c_4418 c_4310
        · obtain ⟨c_4422, c_4423, c_4424, c_4425, c_4426⟩ := hw
          exact absurd c_4422 c_4310
        · obtain ⟨c_4427, c_4428, c_4429, c_4430, c_4431, c_4432⟩ := hw
          exact absurd c_4427 c_4310
        · obtain ⟨c_4433, c_4434, c_4435, c_4436, c_4437, c_4438, c_4439, c_4440⟩ := hw
          exact absurd c_4433 c_4310
        · obtain ⟨c_4441, c_4442, c_4443, c_4444, c_4445, c_4446, c_4447, c_4448, c_4449⟩ := hw
          exact absurd c_4441 c_4310
        · obtain ⟨c_4450, c_4451, c_4452, c_4453, c_4454, c_4455, c_4456, c_4457, c_4458, c_4459⟩ := hw
          exact absurd c_4450 c_4310
        · obtain ⟨c_4460, c_4461, c_4462, c_4463, c_4464, c_4465, c_4466, c_4467, c_4468, c_4469, c_4470⟩ := hw
          exact absurd c_4460 c_4310
        · obtain ⟨c_4471, c_4472, c_4473, c_4474, c_4475⟩ := hw
          exact absurd c_4471 c_4309
        · obtain ⟨c_4476, c_4477, c_4478, c_4479, c_4480, c_4481⟩ := hw
          exact absurd c_4476 c_4309
        · obtain ⟨c_4482, c_4483, c_4484, c_4485, c_4486, c_4487, c_4488⟩ := hw
          exact absurd c_4482 c_4309
        · obtain ⟨c_4489, c_4490, c_4491, c_4492, c_4493, c_4494, c_4495, c_4496⟩ := hw
          exact absurd c_4489 c_4309
        · obtain ⟨c_4497, c_4498, c_4499, c_4500, c_4501⟩ := hw
          exact absurd c_4497 c_4308
        · obtain ⟨c_4502, c_4503, c_4504, c_4505, c_4506, c_4507⟩ := hw
          exact absurd c_4502 c_4308
        · obtain ⟨c_4508, c_4509, c_4510, c_4511, c_4512, c_4513, c_4514⟩ := hw
          exact absurd c_4508 c_4308
        · obtain ⟨c_4515, c_4516, c_4517, c_4518, c_4519, c_4520, c_4521, c_4522⟩ := hw
          exact absurd c_4515 c_4308
      · obtain ⟨rfl, rfl, hw⟩ := hw
        rcases hw with hw | hw | hw | hw | hw
        · obtain ⟨c_4523, c_4524, c_4525, c_4526, c_4527, c_4528, c_4529, c_4530⟩ := hw
          exact absurd (c_4311.symm.trans c_4523) (by decide)
        · obtain ⟨c_4531, c_4532, c_4533, c_4534, c_4535, c_4536, c_4537, c_4538, c_4539, c_4540⟩ := hw
          exact (two_out (lo_nlt c_4539) (up_nlt c_4540) c_4318 c_4319).elim
        · obtain ⟨c_4541, c_4542, c_4543, c_4544, c_4545, c_4546, c_4547, c_4548, c_4549, c_4550, c_4551⟩ := hw
          exact absurd c_4541 c_4310
        · obtain ⟨c_4552, c_4553, c_4554, c_4555, c_4556, c_4557, c_4558, c_4559⟩ := hw
          exact absurd c_4552 c_4309
        · obtain ⟨c_4560, c_4561, c_4562, c_4563, c_4564, c_4565, c_4566, c_4567⟩ := hw
          exact absurd c_4560 c_4308
    · obtain ⟨c_4568, c_4569, c_4570, c_4571, c_4572, c_4573, c_4574, c_4575, c_4576⟩ := hw
      obtain ⟨hP1, hD1⟩ := hB
      rw [ht1] at hP1
      obtain ⟨hP, hD⟩ := va_join (wr := [((a 200), f_m a g)]) (w1 := [(o1, .inl (g 1, 1, .inr (.inl (fun _ => 0))))]) hP hD [3, 0, 1] [2] rfl rfl (by decide) (by decide) hk1 hFc hP1 hD1
      have hP : va_P D vwCl [((a 200), f_m a g), (o1, .inl (g 1, 1, .inr (.inl (fun _ => 0))))] H := hP
      have hD : va_D (va_A [] s.heap.size) [((a 200), f_m a g), (o1, .inl (g 1, 1, .inr (.inl (fun _ => 0))))] := hD
      refine lv_istore (lv' := [(6, .int 1), (0, .ref b), (1, .ref (a 0)), (2, .ref (a 200)), (3, .ref o1), (4, .ref o2), (5, .int 0)]) hx hb dL_law_3248 hl (by decide) rfl (fun ls hl => ?_)
      refine lv_aload_n hx hb dL_law_3250 rfl (lv_at hl 3 rfl) ?_
      refine lv_aload_n hx hb dL_law_3251 rfl (lv_at hl 1 rfl) ?_
      refine lv_iload hx hb dL_law_3252 (lv_at hl 6 rfl) ?_
      refine lv_iconst (v := 1) hx hb dL_law_3254 (by decide) ?_
      refine lv_iadd hx hb dL_law_3255 ?_
      refine r_topi (v := 1) (by decide) ?_
      refine va_sld hx hb hX hbl hbA hS (by unfold vp_in; decide) dL_law_3256 ?_
      refine r_topi (v := xs 1) (congrArg xs (by decide)) ?_
      refine lv_i2c (v := ((xs 1).toUInt32 % 65536).toInt32) hx hb dL_law_3257 rfl ?_
      refine lv_aload_n hx hb dL_law_3258 rfl (lv_at hl 1 rfl) ?_
      refine lv_iload hx hb dL_law_3259 (lv_at hl 6 rfl) ?_
      refine lv_iconst (v := 2) hx hb dL_law_3261 (by decide) ?_
      refine lv_iadd hx hb dL_law_3262 ?_
      refine r_topi (v := 2) (by decide) ?_
      refine va_sld hx hb hX hbl hbA hS (by unfold vp_in; decide) dL_law_3263 ?_
      refine r_topi (v := xs 2) (congrArg xs (by decide)) ?_
      refine lv_aload_n hx hb dL_law_3264 rfl (lv_at hl 1 rfl) ?_
      refine lv_iload hx hb dL_law_3265 (lv_at hl 6 rfl) ?_
      refine lv_iconst (v := 3) hx hb dL_law_3267 (by decide) ?_
      refine lv_iadd hx hb dL_law_3268 ?_
      refine r_topi (v := 3) (by decide) ?_
      refine va_sld hx hb hX hbl hbA hS (by unfold vp_in; decide) dL_law_3269 ?_
      refine r_topi (v := xs 3) (congrArg xs (by decide)) ?_
      refine lv_aload_n hx hb dL_law_3270 rfl (lv_at hl 1 rfl) ?_
      refine lv_iload hx hb dL_law_3271 (lv_at hl 6 rfl) ?_
      refine lv_iconst (v := 4) hx hb dL_law_3273 (by decide) ?_
      refine lv_iadd hx hb dL_law_3274 ?_
      refine r_topi (v := 4) (by decide) ?_
      refine va_sld hx hb hX hbl hbA hS (by unfold vp_in; decide) dL_law_3275 ?_
      refine r_topi (v := xs 4) (congrArg xs (by decide)) ?_
      refine lv_aload_n hx hb dL_law_3276 rfl (lv_at hl 1 rfl) ?_
      refine lv_iload hx hb dL_law_3277 (lv_at hl 6 rfl) ?_
      refine lv_iconst (v := 5) hx hb dL_law_3279 (by decide) ?_
      refine lv_iadd hx hb dL_law_3280 ?_
      refine r_topi (v := 5) (by decide) ?_
      refine va_sld hx hb hX hbl hbA hS (by unfold vp_in; decide) dL_law_3281 ?_
      refine r_topi (v := xs 5) (congrArg xs (by decide)) ?_
      have hPc : va_P D vwCl [((a 200), f_m a g)] _ := hP.sub (ws' := [((a 200), f_m a g)]) [0] rfl
      have hDc : va_D (fun q => z0 ≤ q) [((a 200), f_m a g)] := (hD.to hAz).pick (ws' := [((a 200), f_m a g)]) [0] (by decide) rfl
      have hFc := va_free (wc := [((a 200), f_m a g)]) hD hS hA [0] rfl
      refine va_calli (va_runV (As := [.int (((xs 1).toUInt32 % 65536).toInt32), .int (xs 2), .int (xs 3), .int (xs 4), .int (xs 5)]) (rest := []) ⟨hx, hb, hml, hown, ht⟩ (k_X15_marchFinds l D g z0 _ a (((xs 1).toUInt32 % 65536).toInt32) (xs 2) (xs 3) (xs 4) (xs 5) (isC_i2c _)) (cwV 5 ht (gV w_1231 w_1233 w_1234 w_334 w_1232) rfl rfl rfl (by decide +kernel) (le2 rfl rfl)) ⟨PP.blind, va_recv hK.1 hP (ci := 21) (q0 := 0) rfl rfl, PP.mk' hK hZ hz hAz hS hPc hDc⟩ rfl rfl hl.1 rfl (lv_room (Nat.le_of_ble_eq_true rfl)) dL_law_3282 (le2 rfl rfl)) hS (fun q _ h => hFc q h) hFc (fun r u t H locs ht1 hvm hw hB hz1 hk1 hS => ?_)
      rcases hw with hw | hw
      · obtain ⟨rfl, rfl, hw⟩ := hw
        rcases hw with hw | hw | hw | hw | hw | hw | hw | hw | hw | hw | hw | hw | hw | hw | hw | hw | hw | hw | hw | hw | hw | hw | hw | hw | hw | hw | hw | hw | hw | hw | hw | hw
        · obtain ⟨c_4577, c_4578, c_4579, c_4580, c_4581⟩ := hw
          exact absurd c_4571 c_4580
        · obtain ⟨c_4582, c_4583, c_4584, c_4585, c_4586⟩ := hw
          exact absurd c_4571 c_4585
        · obtain ⟨c_4587, c_4588, c_4589, c_4590, c_4591⟩ := hw
          exact absurd c_4571 c_4590
        · obtain ⟨c_4592, c_4593, c_4594, c_4595⟩ := hw
          exact absurd (c_4571.symm.trans c_4592) (by decide)
        · obtain ⟨c_4596, c_4597, c_4598, c_4599, c_4600⟩ := hw
          exact absurd (c_4571.symm.trans c_4596) (by decide)
        · obtain ⟨c_4601, c_4602, c_4603, c_4604, c_4605, c_4606⟩ := hw
          exact absurd (c_4571.symm.trans c_4601) (by decide)
        · obtain ⟨c_4607, c_4608, c_4609, c_4610, c_4611, c_4612, c_4613⟩ := hw
          exact absurd (c_4571.symm.trans c_4607) (by decide)
        · obtain ⟨c_4614, c_4615, c_4616, c_4617, c_4618, c_4619, c_4620, c_4621⟩ := hw
          exact absurd (c_4571.symm.trans c_4614) (by decide)
        · obtain ⟨c_4622, c_4623, c_4624⟩ := hw
          exact absurd c_4624 c_4572
        · obtain ⟨c_4625, c_4626, c_4627, c_4628⟩ := hw
          exact absurd (Int.le_trans (lo_lt c_4628) (up_lt c_4573)) (by decide)
        · obtain ⟨c_4629, c_4630, c_4631, c_4632, c_4633⟩ := hw
          exact absurd c_4633 c_4574
        · obtain ⟨c_4634, c_4635, c_4636, c_4637, c_4638, c_4639⟩ := hw
          exact absurd (Int.le_trans (lo_lt c_4639) (up_nle c_4575)) (by decide)
        · obtain ⟨c_4640, c_4641, c_4642, c_4643, c_4644, c_4645, c_4646⟩ := hw
          obtain ⟨hP1, hD1⟩ := hB
          rw [ht1] at hP1
          obtain ⟨hP, hD⟩ := va_join (wr := [(o1, .inl (g 1, 1, .inr (.inl (fun _ => 0))))]) (w1 := [((a 200), .inr (21, [.int 1, .ref (a 201), .ref (a 202), .ref (a 203), .ref (a 204), .ref (a 205), .ref (a 206), .int 0, .int 0, .int 0, .int 0, .ref (a 208), .ref (a 209), .ref (a 210), .ref (a 211), .ref (a 212), .int 4, .int 12, .int (-1), .int 0, .ref (g 200), .ref (a 213), .int 0, .int 97, .ref (a 214), .ref (a 215), .ref (a 207), .null, .int 0]))]) hP hD [0] [1] rfl rfl (by decide) (by decide) hk1 hFc hP1 hD1
          have hP : va_P D vwCl [(o1, .inl (g 1, 1, .inr (.inl (fun _ => 0)))), ((a 200), .inr (21, [.int 1, .ref (a 201), .ref (a 202), .ref (a 203), .ref (a 204), .ref (a 205), .ref (a 206), .int 0, .int 0, .int 0, .int 0, .ref (a 208), .ref (a 209), .ref (a 210), .ref (a 211), .ref (a 212), .int 4, .int 12, .int (-1), .int 0, .ref (g 200), .ref (a 213), .int 0, .int 97, .ref (a 214), .ref (a 215), .ref (a 207), .null, .int 0]))] H := hP
          have hD : va_D (va_A [] s.heap.size) [(o1, .inl (g 1, 1, .inr (.inl (fun _ => 0)))), ((a 200), .inr (21, [.int 1, .ref (a 201), .ref (a 202), .ref (a 203), .ref (a 204), .ref (a 205), .ref (a 206), .int 0, .int 0, .int 0, .int 0, .ref (a 208), .ref (a 209), .ref (a 210), .ref (a 211), .ref (a 212), .int 4, .int 12, .int (-1), .int 0, .ref (g 200), .ref (a 213), .int 0, .int 97, .ref (a 214), .ref (a 215), .ref (a 207), .null, .int 0]))] := hD
          refine lv_istore (lv' := [(7, .int 0), (6, .int 1), (0, .ref b), (1, .ref (a 0)), (2, .ref (a 200)), (3, .ref o1), (4, .ref o2), (5, .int 0)]) hx hb dL_law_3285 hl (by decide) rfl (fun ls hl => ?_)
          refine lv_aload_n hx hb dL_law_3287 rfl (lv_at hl 4 rfl) ?_
          have hPc : va_P D vwCl [((a 200), .inr (21, [.int 1, .ref (a 201), .ref (a 202), .ref (a 203), .ref (a 204), .ref (a 205), .ref (a 206), .int 0, .int 0, .int 0, .int 0, .ref (a 208), .ref (a 209), .ref (a 210), .ref (a 211), .ref (a 212), .int 4, .int 12, .int (-1), .int 0, .ref (g 200), .ref (a 213), .int 0, .int 97, .ref (a 214), .ref (a 215), .ref (a 207), .null, .int 0]))] _ := hP.sub (ws' := [((a 200), .inr (21, [.int 1, .ref (a 201), .ref (a 202), .ref (a 203), .ref (a 204), .ref (a 205), .ref (a 206), .int 0, .int 0, .int 0, .int 0, .ref (a 208), .ref (a 209), .ref (a 210), .ref (a 211), .ref (a 212), .int 4, .int 12, .int (-1), .int 0, .ref (g 200), .ref (a 213), .int 0, .int 97, .ref (a 214), .ref (a 215), .ref (a 207), .null, .int 0]))]) [1] rfl
          have hDc : va_D (fun q => z0 ≤ q) [((a 200), .inr (21, [.int 1, .ref (a 201), .ref (a 202), .ref (a 203), .ref (a 204), .ref (a 205), .ref (a 206), .int 0, .int 0, .int 0, .int 0, .ref (a 208), .ref (a 209), .ref (a 210), .ref (a 211), .ref (a 212), .int 4, .int 12, .int (-1), .int 0, .ref (g 200), .ref (a 213), .int 0, .int 97, .ref (a 214), .ref (a 215), .ref (a 207), .null, .int 0]))] := (hD.to hAz).pick (ws' := [((a 200), .inr (21, [.int 1, .ref (a 201), .ref (a 202), .ref (a 203), .ref (a 204), .ref (a 205), .ref (a 206), .int 0, .int 0, .int 0, .int 0, .ref (a 208), .ref (a 209), .ref (a 210), .ref (a 211), .ref (a 212), .int 4, .int 12, .int (-1), .int 0, .ref (g 200), .ref (a 213), .int 0, .int 97, .ref (a 214), .ref (a 215), .ref (a 207), .null, .int 0]))]) [1] (by decide) rfl
          have hFc := va_free (wc := [((a 200), .inr (21, [.int 1, .ref (a 201), .ref (a 202), .ref (a 203), .ref (a 204), .ref (a 205), .ref (a 206), .int 0, .int 0, .int 0, .int 0, .ref (a 208), .ref (a 209), .ref (a 210), .ref (a 211), .ref (a 212), .int 4, .int 12, .int (-1), .int 0, .ref (g 200), .ref (a 213), .int 0, .int 97, .ref (a 214), .ref (a 215), .ref (a 207), .null, .int 0]))]) hD hS hA [1] rfl
          refine va_calli (va_runV (As := []) (rest := []) ⟨hx, hb, hml, hown, ht⟩ (k_X15_thrown_v2 l D g z0 _ a) (cwV 0 ht (gV w_772 w_774 w_775 w_334 w_773) rfl rfl rfl (by decide +kernel) (le2 rfl rfl)) ⟨PP.blind, va_recv hK.1 hP (ci := 21) (q0 := 1) rfl rfl, PP.mk' hK hZ hz hAz hS hPc hDc⟩ rfl rfl hl.1 rfl (lv_room (Nat.le_of_ble_eq_true rfl)) dL_law_3288 (le2 rfl rfl)) hS (fun q _ h => hFc q h) hFc (fun r u t H locs ht1 hvm hw hB hz1 hk1 hS => ?_)
          obtain ⟨rfl, hw⟩ := hw
          obtain ⟨hP1, hD1⟩ := hB
          rw [ht1] at hP1
          obtain ⟨hP, hD⟩ := va_join (wr := [(o1, .inl (g 1, 1, .inr (.inl (fun _ => 0))))]) (w1 := [((a 200), .inr (21, [.int 1, .ref (a 201), .ref (a 202), .ref (a 203), .ref (a 204), .ref (a 205), .ref (a 206), .int 0, .int 0, .int 0, .int 0, .ref (a 208), .ref (a 209), .ref (a 210), .ref (a 211), .ref (a 212), .int 4, .int 12, .int (-1), .int 0, .ref (g 200), .ref (a 213), .int 0, .int 97, .ref (a 214), .ref (a 215), .ref (a 207), .null, .int 0]))]) hP hD [1] [0] rfl rfl (by decide) (by decide) hk1 hFc hP1 hD1
          have hP : va_P D vwCl [(o1, .inl (g 1, 1, .inr (.inl (fun _ => 0)))), ((a 200), .inr (21, [.int 1, .ref (a 201), .ref (a 202), .ref (a 203), .ref (a 204), .ref (a 205), .ref (a 206), .int 0, .int 0, .int 0, .int 0, .ref (a 208), .ref (a 209), .ref (a 210), .ref (a 211), .ref (a 212), .int 4, .int 12, .int (-1), .int 0, .ref (g 200), .ref (a 213), .int 0, .int 97, .ref (a 214), .ref (a 215), .ref (a 207), .null, .int 0]))] H := hP
          have hD : va_D (va_A [] s.heap.size) [(o1, .inl (g 1, 1, .inr (.inl (fun _ => 0)))), ((a 200), .inr (21, [.int 1, .ref (a 201), .ref (a 202), .ref (a 203), .ref (a 204), .ref (a 205), .ref (a 206), .int 0, .int 0, .int 0, .int 0, .ref (a 208), .ref (a 209), .ref (a 210), .ref (a 211), .ref (a 212), .int 4, .int 12, .int (-1), .int 0, .ref (g 200), .ref (a 213), .int 0, .int 97, .ref (a 214), .ref (a 215), .ref (a 207), .null, .int 0]))] := hD
          refine lv_iload hx hb dL_law_3291 (lv_at hl 1 rfl) ?_
          refine lv_icmp_eq (tgt := 3298) hx hb dL_law_3293 (by decide) (fun c_4647 => ?_) (fun c_4647 => ?_)
          · refine lv_iload hx hb dL_law_3298 (lv_at hl 1 rfl) ?_
            refine lv_if_ne (tgt := 3322) hx hb dL_law_3300 (by decide) (fun c_4648 => ?_) (fun c_4648 => ?_)
            · refine lv_goto (tgt := 4264) hx hb dL_law_3322 (by decide) ?_
              refine W.widen (k := 200 + 300) (n := 8000 + 2000) (Nat.le_of_ble_eq_true rfl) (Nat.le_of_ble_eq_true rfl) ?_
              exact kk _ _ _ hS (lv_sub hl [7, 2] rfl)
            · exact absurd c_4648 (by decide)
          · exact absurd c_4647 (by decide)
        · obtain ⟨c_4649, c_4650, c_4651, c_4652, c_4653, c_4654, c_4655, c_4656, c_4657⟩ := hw
          exact absurd c_4576 c_4655
        · obtain ⟨c_4658, c_4659, c_4660, c_4661, c_4662, c_4663, c_4664, c_4665, c_4666, c_4667⟩ := hw
          exact absurd c_4576 c_4664
        · obtain ⟨c_4668, c_4669⟩ := hw
          exact absurd c_4668 c_4570
        · obtain ⟨c_4670, c_4671, c_4672⟩ := hw
          exact absurd c_4670 c_4570
        · obtain ⟨c_4673, c_4674, c_4675, c_4676⟩ := hw
          exact absurd c_4673 c_4570
        · obtain ⟨c_4677, c_4678, c_4679, c_4680, c_4681⟩ := hw
          exact absurd c_4677 c_4570
        · obtain ⟨c_4682, c_4683, c_4684, c_4685, c_4686, c_4687⟩ := hw
          exact absurd c_4682 c_4570
        · obtain ⟨c_4688, c_4689, c_4690, c_4691, c_4692, c_4693, c_4694, c_4695⟩ := hw
          exact absurd c_4688 c_4570
        · obtain ⟨c_4696, c_4697, c_4698, c_4699, c_4700, c_4701, c_4702, c_4703, c_4704⟩ := hw
          exact absurd c_4696 c_4570
        · obtain ⟨c_4705, c_4706, c_4707, c_4708, c_4709, c_4710, c_4711, c_4712, c_4713, c_4714⟩ := hw
          exact absurd c_4705 c_4570
        · obtain ⟨c_4715, c_4716, c_4717, c_4718, c_4719, c_4720, c_4721, c_4722, c_4723, c_4724, c_4725⟩ := hw
          exact absurd c_4715 c_4570
        · obtain ⟨c_4726, c_4727, c_4728, c_4729, c_4730⟩ := hw
          exact absurd c_4726 c_4569
        · obtain ⟨c_4731, c_4732, c_4733, c_4734, c_4735, c_4736⟩ := hw
          exact absurd c_4731 c_4569
        · obtain ⟨c_4737, c_4738, c_4739, c_4740, c_4741, c_4742, c_4743⟩ := hw
          exact absurd c_4737 c_4569
        · obtain ⟨c_4744, c_4745, c_4746, c_4747, c_4748, c_4749, c_4750, c_4751⟩ := hw
          exact absurd c_4744 c_4569
        · obtain ⟨c_4752, c_4753, c_4754, c_4755, c_4756⟩ := hw
          exact absurd c_4752 c_4568
        · obtain ⟨c_4757, c_4758, c_4759, c_4760, c_4761, c_4762⟩ := hw
          exact absurd c_4757 c_4568
        · obtain ⟨c_4763, c_4764, c_4765, c_4766, c_4767, c_4768, c_4769⟩ := hw
          exact absurd c_4763 c_4568
        · obtain ⟨c_4770, c_4771, c_4772, c_4773, c_4774, c_4775, c_4776, c_4777⟩ := hw
          exact absurd c_4770 c_4568
      · obtain ⟨rfl, rfl, hw⟩ := hw
        rcases hw with hw | hw | hw | hw | hw
        · obtain ⟨c_4778, c_4779, c_4780, c_4781, c_4782, c_4783, c_4784, c_4785⟩ := hw
          exact absurd (c_4571.symm.trans c_4778) (by decide)
        · obtain ⟨c_4786, c_4787, c_4788, c_4789, c_4790, c_4791, c_4792, c_4793, c_4794, c_4795⟩ := hw
          exact absurd c_4576 c_4792
        · obtain ⟨c_4796, c_4797, c_4798, c_4799, c_4800, c_4801, c_4802, c_4803, c_4804, c_4805, c_4806⟩ := hw
          exact absurd c_4796 c_4570
        · obtain ⟨c_4807, c_4808, c_4809, c_4810, c_4811, c_4812, c_4813, c_4814⟩ := hw
          exact absurd c_4807 c_4569
        · obtain ⟨c_4815, c_4816, c_4817, c_4818, c_4819, c_4820, c_4821, c_4822⟩ := hw
          exact absurd c_4815 c_4568
    · obtain ⟨c_4823, c_4824, c_4825, c_4826, c_4827, c_4828⟩ := hw
      obtain ⟨hP1, hD1⟩ := hB
      rw [ht1] at hP1
      obtain ⟨hP, hD⟩ := va_join (wr := [((a 200), f_m a g)]) (w1 := [(o1, .inl (g 1, 1, .inr (.inl (fun _ => 0))))]) hP hD [3, 0, 1] [2] rfl rfl (by decide) (by decide) hk1 hFc hP1 hD1
      have hP : va_P D vwCl [((a 200), f_m a g), (o1, .inl (g 1, 1, .inr (.inl (fun _ => 0))))] H := hP
      have hD : va_D (va_A [] s.heap.size) [((a 200), f_m a g), (o1, .inl (g 1, 1, .inr (.inl (fun _ => 0))))] := hD
      refine lv_istore (lv' := [(6, .int 1), (0, .ref b), (1, .ref (a 0)), (2, .ref (a 200)), (3, .ref o1), (4, .ref o2), (5, .int 0)]) hx hb dL_law_3248 hl (by decide) rfl (fun ls hl => ?_)
      refine lv_aload_n hx hb dL_law_3250 rfl (lv_at hl 3 rfl) ?_
      refine lv_aload_n hx hb dL_law_3251 rfl (lv_at hl 1 rfl) ?_
      refine lv_iload hx hb dL_law_3252 (lv_at hl 6 rfl) ?_
      refine lv_iconst (v := 1) hx hb dL_law_3254 (by decide) ?_
      refine lv_iadd hx hb dL_law_3255 ?_
      refine r_topi (v := 1) (by decide) ?_
      refine va_sld hx hb hX hbl hbA hS (by unfold vp_in; decide) dL_law_3256 ?_
      refine r_topi (v := xs 1) (congrArg xs (by decide)) ?_
      refine lv_i2c (v := ((xs 1).toUInt32 % 65536).toInt32) hx hb dL_law_3257 rfl ?_
      refine lv_aload_n hx hb dL_law_3258 rfl (lv_at hl 1 rfl) ?_
      refine lv_iload hx hb dL_law_3259 (lv_at hl 6 rfl) ?_
      refine lv_iconst (v := 2) hx hb dL_law_3261 (by decide) ?_
      refine lv_iadd hx hb dL_law_3262 ?_
      refine r_topi (v := 2) (by decide) ?_
      refine va_sld hx hb hX hbl hbA hS (by unfold vp_in; decide) dL_law_3263 ?_
      refine r_topi (v := xs 2) (congrArg xs (by decide)) ?_
      refine lv_aload_n hx hb dL_law_3264 rfl (lv_at hl 1 rfl) ?_
      refine lv_iload hx hb dL_law_3265 (lv_at hl 6 rfl) ?_
      refine lv_iconst (v := 3) hx hb dL_law_3267 (by decide) ?_
      refine lv_iadd hx hb dL_law_3268 ?_
      refine r_topi (v := 3) (by decide) ?_
      refine va_sld hx hb hX hbl hbA hS (by unfold vp_in; decide) dL_law_3269 ?_
      refine r_topi (v := xs 3) (congrArg xs (by decide)) ?_
      refine lv_aload_n hx hb dL_law_3270 rfl (lv_at hl 1 rfl) ?_
      refine lv_iload hx hb dL_law_3271 (lv_at hl 6 rfl) ?_
      refine lv_iconst (v := 4) hx hb dL_law_3273 (by decide) ?_
      refine lv_iadd hx hb dL_law_3274 ?_
      refine r_topi (v := 4) (by decide) ?_
      refine va_sld hx hb hX hbl hbA hS (by unfold vp_in; decide) dL_law_3275 ?_
      refine r_topi (v := xs 4) (congrArg xs (by decide)) ?_
      refine lv_aload_n hx hb dL_law_3276 rfl (lv_at hl 1 rfl) ?_
      refine lv_iload hx hb dL_law_3277 (lv_at hl 6 rfl) ?_
      refine lv_iconst (v := 5) hx hb dL_law_3279 (by decide) ?_
      refine lv_iadd hx hb dL_law_3280 ?_
      refine r_topi (v := 5) (by decide) ?_
      refine va_sld hx hb hX hbl hbA hS (by unfold vp_in; decide) dL_law_3281 ?_
      refine r_topi (v := xs 5) (congrArg xs (by decide)) ?_
      have hPc : va_P D vwCl [((a 200), f_m a g)] _ := hP.sub (ws' := [((a 200), f_m a g)]) [0] rfl
      have hDc : va_D (fun q => z0 ≤ q) [((a 200), f_m a g)] := (hD.to hAz).pick (ws' := [((a 200), f_m a g)]) [0] (by decide) rfl
      have hFc := va_free (wc := [((a 200), f_m a g)]) hD hS hA [0] rfl
      refine va_calli (va_runV (As := [.int (((xs 1).toUInt32 % 65536).toInt32), .int (xs 2), .int (xs 3), .int (xs 4), .int (xs 5)]) (rest := []) ⟨hx, hb, hml, hown, ht⟩ (k_X15_marchFinds l D g z0 _ a (((xs 1).toUInt32 % 65536).toInt32) (xs 2) (xs 3) (xs 4) (xs 5) (isC_i2c _)) (cwV 5 ht (gV w_1231 w_1233 w_1234 w_334 w_1232) rfl rfl rfl (by decide +kernel) (le2 rfl rfl)) ⟨PP.blind, va_recv hK.1 hP (ci := 21) (q0 := 0) rfl rfl, PP.mk' hK hZ hz hAz hS hPc hDc⟩ rfl rfl hl.1 rfl (lv_room (Nat.le_of_ble_eq_true rfl)) dL_law_3282 (le2 rfl rfl)) hS (fun q _ h => hFc q h) hFc (fun r u t H locs ht1 hvm hw hB hz1 hk1 hS => ?_)
      rcases hw with hw | hw
      · obtain ⟨rfl, rfl, hw⟩ := hw
        rcases hw with hw | hw | hw | hw | hw | hw | hw | hw | hw | hw | hw | hw | hw | hw | hw | hw | hw | hw | hw | hw | hw | hw | hw | hw | hw | hw | hw | hw | hw | hw | hw | hw
        · obtain ⟨c_4829, c_4830, c_4831, c_4832, c_4833⟩ := hw
          exact absurd c_4826 c_4832
        · obtain ⟨c_4834, c_4835, c_4836, c_4837, c_4838⟩ := hw
          exact absurd c_4826 c_4837
        · obtain ⟨c_4839, c_4840, c_4841, c_4842, c_4843⟩ := hw
          exact absurd c_4826 c_4842
        · obtain ⟨c_4844, c_4845, c_4846, c_4847⟩ := hw
          exact absurd (c_4826.symm.trans c_4844) (by decide)
        · obtain ⟨c_4848, c_4849, c_4850, c_4851, c_4852⟩ := hw
          exact absurd (c_4826.symm.trans c_4848) (by decide)
        · obtain ⟨c_4853, c_4854, c_4855, c_4856, c_4857, c_4858⟩ := hw
          exact absurd (c_4826.symm.trans c_4853) (by decide)
        · obtain ⟨c_4859, c_4860, c_4861, c_4862, c_4863, c_4864, c_4865⟩ := hw
          exact absurd (c_4826.symm.trans c_4859) (by decide)
        · obtain ⟨c_4866, c_4867, c_4868, c_4869, c_4870, c_4871, c_4872, c_4873⟩ := hw
          exact absurd (c_4826.symm.trans c_4866) (by decide)
        · obtain ⟨c_4874, c_4875, c_4876⟩ := hw
          exact absurd c_4876 c_4827
        · obtain ⟨c_4877, c_4878, c_4879, c_4880⟩ := hw
          obtain ⟨hP1, hD1⟩ := hB
          rw [ht1] at hP1
          obtain ⟨hP, hD⟩ := va_join (wr := [(o1, .inl (g 1, 1, .inr (.inl (fun _ => 0))))]) (w1 := [((a 200), .inr (21, [.int 1, .ref (a 201), .ref (a 202), .ref (a 203), .ref (a 204), .ref (a 205), .ref (a 206), .int 0, .int 0, .int 0, .int 0, .ref (a 208), .ref (a 209), .ref (a 210), .ref (a 211), .ref (a 212), .int 4, .int 12, .int (-1), .int 0, .ref (g 200), .ref (a 213), .int 0, .int 97, .ref (a 214), .ref (a 215), .ref (a 207), .null, .int 0]))]) hP hD [0] [1] rfl rfl (by decide) (by decide) hk1 hFc hP1 hD1
          have hP : va_P D vwCl [(o1, .inl (g 1, 1, .inr (.inl (fun _ => 0)))), ((a 200), .inr (21, [.int 1, .ref (a 201), .ref (a 202), .ref (a 203), .ref (a 204), .ref (a 205), .ref (a 206), .int 0, .int 0, .int 0, .int 0, .ref (a 208), .ref (a 209), .ref (a 210), .ref (a 211), .ref (a 212), .int 4, .int 12, .int (-1), .int 0, .ref (g 200), .ref (a 213), .int 0, .int 97, .ref (a 214), .ref (a 215), .ref (a 207), .null, .int 0]))] H := hP
          have hD : va_D (va_A [] s.heap.size) [(o1, .inl (g 1, 1, .inr (.inl (fun _ => 0)))), ((a 200), .inr (21, [.int 1, .ref (a 201), .ref (a 202), .ref (a 203), .ref (a 204), .ref (a 205), .ref (a 206), .int 0, .int 0, .int 0, .int 0, .ref (a 208), .ref (a 209), .ref (a 210), .ref (a 211), .ref (a 212), .int 4, .int 12, .int (-1), .int 0, .ref (g 200), .ref (a 213), .int 0, .int 97, .ref (a 214), .ref (a 215), .ref (a 207), .null, .int 0]))] := hD
          refine lv_istore (lv' := [(7, .int 0), (6, .int 1), (0, .ref b), (1, .ref (a 0)), (2, .ref (a 200)), (3, .ref o1), (4, .ref o2), (5, .int 0)]) hx hb dL_law_3285 hl (by decide) rfl (fun ls hl => ?_)
          refine lv_aload_n hx hb dL_law_3287 rfl (lv_at hl 4 rfl) ?_
          have hPc : va_P D vwCl [((a 200), .inr (21, [.int 1, .ref (a 201), .ref (a 202), .ref (a 203), .ref (a 204), .ref (a 205), .ref (a 206), .int 0, .int 0, .int 0, .int 0, .ref (a 208), .ref (a 209), .ref (a 210), .ref (a 211), .ref (a 212), .int 4, .int 12, .int (-1), .int 0, .ref (g 200), .ref (a 213), .int 0, .int 97, .ref (a 214), .ref (a 215), .ref (a 207), .null, .int 0]))] _ := hP.sub (ws' := [((a 200), .inr (21, [.int 1, .ref (a 201), .ref (a 202), .ref (a 203), .ref (a 204), .ref (a 205), .ref (a 206), .int 0, .int 0, .int 0, .int 0, .ref (a 208), .ref (a 209), .ref (a 210), .ref (a 211), .ref (a 212), .int 4, .int 12, .int (-1), .int 0, .ref (g 200), .ref (a 213), .int 0, .int 97, .ref (a 214), .ref (a 215), .ref (a 207), .null, .int 0]))]) [1] rfl
          have hDc : va_D (fun q => z0 ≤ q) [((a 200), .inr (21, [.int 1, .ref (a 201), .ref (a 202), .ref (a 203), .ref (a 204), .ref (a 205), .ref (a 206), .int 0, .int 0, .int 0, .int 0, .ref (a 208), .ref (a 209), .ref (a 210), .ref (a 211), .ref (a 212), .int 4, .int 12, .int (-1), .int 0, .ref (g 200), .ref (a 213), .int 0, .int 97, .ref (a 214), .ref (a 215), .ref (a 207), .null, .int 0]))] := (hD.to hAz).pick (ws' := [((a 200), .inr (21, [.int 1, .ref (a 201), .ref (a 202), .ref (a 203), .ref (a 204), .ref (a 205), .ref (a 206), .int 0, .int 0, .int 0, .int 0, .ref (a 208), .ref (a 209), .ref (a 210), .ref (a 211), .ref (a 212), .int 4, .int 12, .int (-1), .int 0, .ref (g 200), .ref (a 213), .int 0, .int 97, .ref (a 214), .ref (a 215), .ref (a 207), .null, .int 0]))]) [1] (by decide) rfl
          have hFc := va_free (wc := [((a 200), .inr (21, [.int 1, .ref (a 201), .ref (a 202), .ref (a 203), .ref (a 204), .ref (a 205), .ref (a 206), .int 0, .int 0, .int 0, .int 0, .ref (a 208), .ref (a 209), .ref (a 210), .ref (a 211), .ref (a 212), .int 4, .int 12, .int (-1), .int 0, .ref (g 200), .ref (a 213), .int 0, .int 97, .ref (a 214), .ref (a 215), .ref (a 207), .null, .int 0]))]) hD hS hA [1] rfl
          refine va_calli (va_runV (As := []) (rest := []) ⟨hx, hb, hml, hown, ht⟩ (k_X15_thrown_v2 l D g z0 _ a) (cwV 0 ht (gV w_772 w_774 w_775 w_334 w_773) rfl rfl rfl (by decide +kernel) (le2 rfl rfl)) ⟨PP.blind, va_recv hK.1 hP (ci := 21) (q0 := 1) rfl rfl, PP.mk' hK hZ hz hAz hS hPc hDc⟩ rfl rfl hl.1 rfl (lv_room (Nat.le_of_ble_eq_true rfl)) dL_law_3288 (le2 rfl rfl)) hS (fun q _ h => hFc q h) hFc (fun r u t H locs ht1 hvm hw hB hz1 hk1 hS => ?_)
          obtain ⟨rfl, hw⟩ := hw
          obtain ⟨hP1, hD1⟩ := hB
          rw [ht1] at hP1
          obtain ⟨hP, hD⟩ := va_join (wr := [(o1, .inl (g 1, 1, .inr (.inl (fun _ => 0))))]) (w1 := [((a 200), .inr (21, [.int 1, .ref (a 201), .ref (a 202), .ref (a 203), .ref (a 204), .ref (a 205), .ref (a 206), .int 0, .int 0, .int 0, .int 0, .ref (a 208), .ref (a 209), .ref (a 210), .ref (a 211), .ref (a 212), .int 4, .int 12, .int (-1), .int 0, .ref (g 200), .ref (a 213), .int 0, .int 97, .ref (a 214), .ref (a 215), .ref (a 207), .null, .int 0]))]) hP hD [1] [0] rfl rfl (by decide) (by decide) hk1 hFc hP1 hD1
          have hP : va_P D vwCl [(o1, .inl (g 1, 1, .inr (.inl (fun _ => 0)))), ((a 200), .inr (21, [.int 1, .ref (a 201), .ref (a 202), .ref (a 203), .ref (a 204), .ref (a 205), .ref (a 206), .int 0, .int 0, .int 0, .int 0, .ref (a 208), .ref (a 209), .ref (a 210), .ref (a 211), .ref (a 212), .int 4, .int 12, .int (-1), .int 0, .ref (g 200), .ref (a 213), .int 0, .int 97, .ref (a 214), .ref (a 215), .ref (a 207), .null, .int 0]))] H := hP
          have hD : va_D (va_A [] s.heap.size) [(o1, .inl (g 1, 1, .inr (.inl (fun _ => 0)))), ((a 200), .inr (21, [.int 1, .ref (a 201), .ref (a 202), .ref (a 203), .ref (a 204), .ref (a 205), .ref (a 206), .int 0, .int 0, .int 0, .int 0, .ref (a 208), .ref (a 209), .ref (a 210), .ref (a 211), .ref (a 212), .int 4, .int 12, .int (-1), .int 0, .ref (g 200), .ref (a 213), .int 0, .int 97, .ref (a 214), .ref (a 215), .ref (a 207), .null, .int 0]))] := hD
          refine lv_iload hx hb dL_law_3291 (lv_at hl 1 rfl) ?_
          refine lv_icmp_eq (tgt := 3298) hx hb dL_law_3293 (by decide) (fun c_4881 => ?_) (fun c_4881 => ?_)
          · refine lv_iload hx hb dL_law_3298 (lv_at hl 1 rfl) ?_
            refine lv_if_ne (tgt := 3322) hx hb dL_law_3300 (by decide) (fun c_4882 => ?_) (fun c_4882 => ?_)
            · refine lv_goto (tgt := 4264) hx hb dL_law_3322 (by decide) ?_
              refine W.widen (k := 200 + 300) (n := 8000 + 2000) (Nat.le_of_ble_eq_true rfl) (Nat.le_of_ble_eq_true rfl) ?_
              exact kk _ _ _ hS (lv_sub hl [7, 2] rfl)
            · exact absurd c_4882 (by decide)
          · exact absurd c_4881 (by decide)
        · obtain ⟨c_4883, c_4884, c_4885, c_4886, c_4887⟩ := hw
          exact absurd (Int.le_trans (lo_nlt c_4828) (up_nlt c_4886)) (by decide)
        · obtain ⟨c_4888, c_4889, c_4890, c_4891, c_4892, c_4893⟩ := hw
          exact absurd (Int.le_trans (lo_nlt c_4828) (up_nlt c_4891)) (by decide)
        · obtain ⟨c_4894, c_4895, c_4896, c_4897, c_4898, c_4899, c_4900⟩ := hw
          exact absurd (Int.le_trans (lo_nlt c_4828) (up_nlt c_4897)) (by decide)
        · obtain ⟨c_4901, c_4902, c_4903, c_4904, c_4905, c_4906, c_4907, c_4908, c_4909⟩ := hw
          exact absurd (Int.le_trans (lo_nlt c_4828) (up_nlt c_4904)) (by decide)
        · obtain ⟨c_4910, c_4911, c_4912, c_4913, c_4914, c_4915, c_4916, c_4917, c_4918, c_4919⟩ := hw
          exact absurd (Int.le_trans (lo_nlt c_4828) (up_nlt c_4913)) (by decide)
        · obtain ⟨c_4920, c_4921⟩ := hw
          exact absurd c_4920 c_4825
        · obtain ⟨c_4922, c_4923, c_4924⟩ := hw
          exact absurd c_4922 c_4825
        · obtain ⟨c_4925, c_4926, c_4927, c_4928⟩ := hw
          exact absurd c_4925 c_4825
        · obtain ⟨c_4929, c_4930, c_4931, c_4932, c_4933⟩ := hw
          exact absurd c_4929 c_4825
        · obtain ⟨c_4934, c_4935, c_4936, c_4937, c_4938, c_4939⟩ := hw
          exact absurd c_4934 c_4825
        · obtain ⟨c_4940, c_4941, c_4942, c_4943, c_4944, c_4945, c_4946, c_4947⟩ := hw
          exact absurd c_4940 c_4825
        · obtain ⟨c_4948, c_4949, c_4950, c_4951, c_4952, c_4953, c_4954, c_4955, c_4956⟩ := hw
          exact absurd c_4948 c_4825
        · obtain ⟨c_4957, c_4958, c_4959, c_4960, c_4961, c_4962, c_4963, c_4964, c_4965, c_4966⟩ := hw
          exact absurd c_4957 c_4825
        · obtain ⟨c_4967, c_4968, c_4969, c_4970, c_4971, c_4972, c_4973, c_4974, c_4975, c_4976, c_4977⟩ := hw
          exact absurd c_4967 c_4825
        · obtain ⟨c_4978, c_4979, c_4980, c_4981, c_4982⟩ := hw
          exact absurd c_4978 c_4824
        · obtain ⟨c_4983, c_4984, c_4985, c_4986, c_4987, c_4988⟩ := hw
          exact absurd c_4983 c_4824
        · obtain ⟨c_4989, c_4990, c_4991, c_4992, c_4993, c_4994, c_4995⟩ := hw
          exact absurd c_4989 c_4824
        · obtain ⟨c_4996, c_4997, c_4998, c_4999, c_5000, c_5001, c_5002, c_5003⟩ := hw
          exact absurd c_4996 c_4824
        · obtain ⟨c_5004, c_5005, c_5006, c_5007, c_5008⟩ := hw
          exact absurd c_5004 c_4823
        · obtain ⟨c_5009, c_5010, c_5011, c_5012, c_5013, c_5014⟩ := hw
          exact absurd c_5009 c_4823
        · obtain ⟨c_5015, c_5016, c_5017, c_5018, c_5019, c_5020, c_5021⟩ := hw
          exact absurd c_5015 c_4823
        · obtain ⟨c_5022, c_5023, c_5024, c_5025, c_5026, c_5027, c_5028, c_5029⟩ := hw
          exact absurd c_5022 c_4823
      · obtain ⟨rfl, rfl, hw⟩ := hw
        rcases hw with hw | hw | hw | hw | hw
        · obtain ⟨c_5030, c_5031, c_5032, c_5033, c_5034, c_5035, c_5036, c_5037⟩ := hw
          exact absurd (c_4826.symm.trans c_5030) (by decide)
        · obtain ⟨c_5038, c_5039, c_5040, c_5041, c_5042, c_5043, c_5044, c_5045, c_5046, c_5047⟩ := hw
          exact absurd (Int.le_trans (lo_nlt c_4828) (up_nlt c_5041)) (by decide)
        · obtain ⟨c_5048, c_5049, c_5050, c_5051, c_5052, c_5053, c_5054, c_5055, c_5056, c_5057, c_5058⟩ := hw
          exact absurd c_5048 c_4825
        · obtain ⟨c_5059, c_5060, c_5061, c_5062, c_5063, c_5064, c_5065, c_5066⟩ := hw
          exact absurd c_5059 c_4824
        · obtain ⟨c_5067, c_5068, c_5069, c_5070, c_5071, c_5072, c_5073, c_5074⟩ := hw
          exact absurd c_5067 c_4823
    · obtain ⟨c_5075, c_5076, c_5077, c_5078, c_5079, c_5080⟩ := hw
      obtain ⟨hP1, hD1⟩ := hB
      rw [ht1] at hP1
      obtain ⟨hP, hD⟩ := va_join (wr := [((a 200), f_m a g)]) (w1 := [(o1, .inl (g 1, 1, .inr (.inl (fun _ => 0))))]) hP hD [3, 0, 1] [2] rfl rfl (by decide) (by decide) hk1 hFc hP1 hD1
      have hP : va_P D vwCl [((a 200), f_m a g), (o1, .inl (g 1, 1, .inr (.inl (fun _ => 0))))] H := hP
      have hD : va_D (va_A [] s.heap.size) [((a 200), f_m a g), (o1, .inl (g 1, 1, .inr (.inl (fun _ => 0))))] := hD
      refine lv_istore (lv' := [(6, .int 1), (0, .ref b), (1, .ref (a 0)), (2, .ref (a 200)), (3, .ref o1), (4, .ref o2), (5, .int 0)]) hx hb dL_law_3248 hl (by decide) rfl (fun ls hl => ?_)
      refine lv_aload_n hx hb dL_law_3250 rfl (lv_at hl 3 rfl) ?_
      refine lv_aload_n hx hb dL_law_3251 rfl (lv_at hl 1 rfl) ?_
      refine lv_iload hx hb dL_law_3252 (lv_at hl 6 rfl) ?_
      refine lv_iconst (v := 1) hx hb dL_law_3254 (by decide) ?_
      refine lv_iadd hx hb dL_law_3255 ?_
      refine r_topi (v := 1) (by decide) ?_
      refine va_sld hx hb hX hbl hbA hS (by unfold vp_in; decide) dL_law_3256 ?_
      refine r_topi (v := xs 1) (congrArg xs (by decide)) ?_
      refine lv_i2c (v := ((xs 1).toUInt32 % 65536).toInt32) hx hb dL_law_3257 rfl ?_
      refine lv_aload_n hx hb dL_law_3258 rfl (lv_at hl 1 rfl) ?_
      refine lv_iload hx hb dL_law_3259 (lv_at hl 6 rfl) ?_
      refine lv_iconst (v := 2) hx hb dL_law_3261 (by decide) ?_
      refine lv_iadd hx hb dL_law_3262 ?_
      refine r_topi (v := 2) (by decide) ?_
      refine va_sld hx hb hX hbl hbA hS (by unfold vp_in; decide) dL_law_3263 ?_
      refine r_topi (v := xs 2) (congrArg xs (by decide)) ?_
      refine lv_aload_n hx hb dL_law_3264 rfl (lv_at hl 1 rfl) ?_
      refine lv_iload hx hb dL_law_3265 (lv_at hl 6 rfl) ?_
      refine lv_iconst (v := 3) hx hb dL_law_3267 (by decide) ?_
      refine lv_iadd hx hb dL_law_3268 ?_
      refine r_topi (v := 3) (by decide) ?_
      refine va_sld hx hb hX hbl hbA hS (by unfold vp_in; decide) dL_law_3269 ?_
      refine r_topi (v := xs 3) (congrArg xs (by decide)) ?_
      refine lv_aload_n hx hb dL_law_3270 rfl (lv_at hl 1 rfl) ?_
      refine lv_iload hx hb dL_law_3271 (lv_at hl 6 rfl) ?_
      refine lv_iconst (v := 4) hx hb dL_law_3273 (by decide) ?_
      refine lv_iadd hx hb dL_law_3274 ?_
      refine r_topi (v := 4) (by decide) ?_
      refine va_sld hx hb hX hbl hbA hS (by unfold vp_in; decide) dL_law_3275 ?_
      refine r_topi (v := xs 4) (congrArg xs (by decide)) ?_
      refine lv_aload_n hx hb dL_law_3276 rfl (lv_at hl 1 rfl) ?_
      refine lv_iload hx hb dL_law_3277 (lv_at hl 6 rfl) ?_
      refine lv_iconst (v := 5) hx hb dL_law_3279 (by decide) ?_
      refine lv_iadd hx hb dL_law_3280 ?_
      refine r_topi (v := 5) (by decide) ?_
      refine va_sld hx hb hX hbl hbA hS (by unfold vp_in; decide) dL_law_3281 ?_
      refine r_topi (v := xs 5) (congrArg xs (by decide)) ?_
      have hPc : va_P D vwCl [((a 200), f_m a g)] _ := hP.sub (ws' := [((a 200), f_m a g)]) [0] rfl
      have hDc : va_D (fun q => z0 ≤ q) [((a 200), f_m a g)] := (hD.to hAz).pick (ws' := [((a 200), f_m a g)]) [0] (by decide) rfl
      have hFc := va_free (wc := [((a 200), f_m a g)]) hD hS hA [0] rfl
      refine va_calli (va_runV (As := [.int (((xs 1).toUInt32 % 65536).toInt32), .int (xs 2), .int (xs 3), .int (xs 4), .int (xs 5)]) (rest := []) ⟨hx, hb, hml, hown, ht⟩ (k_X15_marchFinds l D g z0 _ a (((xs 1).toUInt32 % 65536).toInt32) (xs 2) (xs 3) (xs 4) (xs 5) (isC_i2c _)) (cwV 5 ht (gV w_1231 w_1233 w_1234 w_334 w_1232) rfl rfl rfl (by decide +kernel) (le2 rfl rfl)) ⟨PP.blind, va_recv hK.1 hP (ci := 21) (q0 := 0) rfl rfl, PP.mk' hK hZ hz hAz hS hPc hDc⟩ rfl rfl hl.1 rfl (lv_room (Nat.le_of_ble_eq_true rfl)) dL_law_3282 (le2 rfl rfl)) hS (fun q _ h => hFc q h) hFc (fun r u t H locs ht1 hvm hw hB hz1 hk1 hS => ?_)
      rcases hw with hw | hw
      · obtain ⟨rfl, rfl, hw⟩ := hw
        rcases hw with hw | hw | hw | hw | hw | hw | hw | hw | hw | hw | hw | hw | hw | hw | hw | hw | hw | hw | hw | hw | hw | hw | hw | hw | hw | hw | hw | hw | hw | hw | hw | hw
        · obtain ⟨c_5081, c_5082, c_5083, c_5084, c_5085⟩ := hw
          exact absurd c_5079 c_5085
        · obtain ⟨c_5086, c_5087, c_5088, c_5089, c_5090⟩ := hw
          exact absurd c_5079 c_5090
        · obtain ⟨c_5091, c_5092, c_5093, c_5094, c_5095⟩ := hw
          exact absurd c_5079 c_5095
        · obtain ⟨c_5096, c_5097, c_5098, c_5099⟩ := hw
          obtain ⟨hP1, hD1⟩ := hB
          rw [ht1] at hP1
          obtain ⟨hP, hD⟩ := va_join (wr := [(o1, .inl (g 1, 1, .inr (.inl (fun _ => 0))))]) (w1 := [((a 200), .inr (21, [.int 1, .ref (a 201), .ref (a 202), .ref (a 203), .ref (a 204), .ref (a 205), .ref (a 206), .int 0, .int 0, .int 0, .int 0, .ref (a 208), .ref (a 209), .ref (a 210), .ref (a 211), .ref (a 212), .int 4, .int 12, .int (-1), .int 0, .ref (g 200), .ref (a 213), .int 0, .int 97, .ref (a 214), .ref (a 215), .ref (a 207), .null, .int 0]))]) hP hD [0] [1] rfl rfl (by decide) (by decide) hk1 hFc hP1 hD1
          have hP : va_P D vwCl [(o1, .inl (g 1, 1, .inr (.inl (fun _ => 0)))), ((a 200), .inr (21, [.int 1, .ref (a 201), .ref (a 202), .ref (a 203), .ref (a 204), .ref (a 205), .ref (a 206), .int 0, .int 0, .int 0, .int 0, .ref (a 208), .ref (a 209), .ref (a 210), .ref (a 211), .ref (a 212), .int 4, .int 12, .int (-1), .int 0, .ref (g 200), .ref (a 213), .int 0, .int 97, .ref (a 214), .ref (a 215), .ref (a 207), .null, .int 0]))] H := hP
          have hD : va_D (va_A [] s.heap.size) [(o1, .inl (g 1, 1, .inr (.inl (fun _ => 0)))), ((a 200), .inr (21, [.int 1, .ref (a 201), .ref (a 202), .ref (a 203), .ref (a 204), .ref (a 205), .ref (a 206), .int 0, .int 0, .int 0, .int 0, .ref (a 208), .ref (a 209), .ref (a 210), .ref (a 211), .ref (a 212), .int 4, .int 12, .int (-1), .int 0, .ref (g 200), .ref (a 213), .int 0, .int 97, .ref (a 214), .ref (a 215), .ref (a 207), .null, .int 0]))] := hD
          refine lv_istore (lv' := [(7, .int 0), (6, .int 1), (0, .ref b), (1, .ref (a 0)), (2, .ref (a 200)), (3, .ref o1), (4, .ref o2), (5, .int 0)]) hx hb dL_law_3285 hl (by decide) rfl (fun ls hl => ?_)
          refine lv_aload_n hx hb dL_law_3287 rfl (lv_at hl 4 rfl) ?_
          have hPc : va_P D vwCl [((a 200), .inr (21, [.int 1, .ref (a 201), .ref (a 202), .ref (a 203), .ref (a 204), .ref (a 205), .ref (a 206), .int 0, .int 0, .int 0, .int 0, .ref (a 208), .ref (a 209), .ref (a 210), .ref (a 211), .ref (a 212), .int 4, .int 12, .int (-1), .int 0, .ref (g 200), .ref (a 213), .int 0, .int 97, .ref (a 214), .ref (a 215), .ref (a 207), .null, .int 0]))] _ := hP.sub (ws' := [((a 200), .inr (21, [.int 1, .ref (a 201), .ref (a 202), .ref (a 203), .ref (a 204), .ref (a 205), .ref (a 206), .int 0, .int 0, .int 0, .int 0, .ref (a 208), .ref (a 209), .ref (a 210), .ref (a 211), .ref (a 212), .int 4, .int 12, .int (-1), .int 0, .ref (g 200), .ref (a 213), .int 0, .int 97, .ref (a 214), .ref (a 215), .ref (a 207), .null, .int 0]))]) [1] rfl
          have hDc : va_D (fun q => z0 ≤ q) [((a 200), .inr (21, [.int 1, .ref (a 201), .ref (a 202), .ref (a 203), .ref (a 204), .ref (a 205), .ref (a 206), .int 0, .int 0, .int 0, .int 0, .ref (a 208), .ref (a 209), .ref (a 210), .ref (a 211), .ref (a 212), .int 4, .int 12, .int (-1), .int 0, .ref (g 200), .ref (a 213), .int 0, .int 97, .ref (a 214), .ref (a 215), .ref (a 207), .null, .int 0]))] := (hD.to hAz).pick (ws' := [((a 200), .inr (21, [.int 1, .ref (a 201), .ref (a 202), .ref (a 203), .ref (a 204), .ref (a 205), .ref (a 206), .int 0, .int 0, .int 0, .int 0, .ref (a 208), .ref (a 209), .ref (a 210), .ref (a 211), .ref (a 212), .int 4, .int 12, .int (-1), .int 0, .ref (g 200), .ref (a 213), .int 0, .int 97, .ref (a 214), .ref (a 215), .ref (a 207), .null, .int 0]))]) [1] (by decide) rfl
          have hFc := va_free (wc := [((a 200), .inr (21, [.int 1, .ref (a 201), .ref (a 202), .ref (a 203), .ref (a 204), .ref (a 205), .ref (a 206), .int 0, .int 0, .int 0, .int 0, .ref (a 208), .ref (a 209), .ref (a 210), .ref (a 211), .ref (a 212), .int 4, .int 12, .int (-1), .int 0, .ref (g 200), .ref (a 213), .int 0, .int 97, .ref (a 214), .ref (a 215), .ref (a 207), .null, .int 0]))]) hD hS hA [1] rfl
          refine va_calli (va_runV (As := []) (rest := []) ⟨hx, hb, hml, hown, ht⟩ (k_X15_thrown_v2 l D g z0 _ a) (cwV 0 ht (gV w_772 w_774 w_775 w_334 w_773) rfl rfl rfl (by decide +kernel) (le2 rfl rfl)) ⟨PP.blind, va_recv hK.1 hP (ci := 21) (q0 := 1) rfl rfl, PP.mk' hK hZ hz hAz hS hPc hDc⟩ rfl rfl hl.1 rfl (lv_room (Nat.le_of_ble_eq_true rfl)) dL_law_3288 (le2 rfl rfl)) hS (fun q _ h => hFc q h) hFc (fun r u t H locs ht1 hvm hw hB hz1 hk1 hS => ?_)
          obtain ⟨rfl, hw⟩ := hw
          obtain ⟨hP1, hD1⟩ := hB
          rw [ht1] at hP1
          obtain ⟨hP, hD⟩ := va_join (wr := [(o1, .inl (g 1, 1, .inr (.inl (fun _ => 0))))]) (w1 := [((a 200), .inr (21, [.int 1, .ref (a 201), .ref (a 202), .ref (a 203), .ref (a 204), .ref (a 205), .ref (a 206), .int 0, .int 0, .int 0, .int 0, .ref (a 208), .ref (a 209), .ref (a 210), .ref (a 211), .ref (a 212), .int 4, .int 12, .int (-1), .int 0, .ref (g 200), .ref (a 213), .int 0, .int 97, .ref (a 214), .ref (a 215), .ref (a 207), .null, .int 0]))]) hP hD [1] [0] rfl rfl (by decide) (by decide) hk1 hFc hP1 hD1
          have hP : va_P D vwCl [(o1, .inl (g 1, 1, .inr (.inl (fun _ => 0)))), ((a 200), .inr (21, [.int 1, .ref (a 201), .ref (a 202), .ref (a 203), .ref (a 204), .ref (a 205), .ref (a 206), .int 0, .int 0, .int 0, .int 0, .ref (a 208), .ref (a 209), .ref (a 210), .ref (a 211), .ref (a 212), .int 4, .int 12, .int (-1), .int 0, .ref (g 200), .ref (a 213), .int 0, .int 97, .ref (a 214), .ref (a 215), .ref (a 207), .null, .int 0]))] H := hP
          have hD : va_D (va_A [] s.heap.size) [(o1, .inl (g 1, 1, .inr (.inl (fun _ => 0)))), ((a 200), .inr (21, [.int 1, .ref (a 201), .ref (a 202), .ref (a 203), .ref (a 204), .ref (a 205), .ref (a 206), .int 0, .int 0, .int 0, .int 0, .ref (a 208), .ref (a 209), .ref (a 210), .ref (a 211), .ref (a 212), .int 4, .int 12, .int (-1), .int 0, .ref (g 200), .ref (a 213), .int 0, .int 97, .ref (a 214), .ref (a 215), .ref (a 207), .null, .int 0]))] := hD
          refine lv_iload hx hb dL_law_3291 (lv_at hl 1 rfl) ?_
          refine lv_icmp_eq (tgt := 3298) hx hb dL_law_3293 (by decide) (fun c_5100 => ?_) (fun c_5100 => ?_)
          · refine lv_iload hx hb dL_law_3298 (lv_at hl 1 rfl) ?_
            refine lv_if_ne (tgt := 3322) hx hb dL_law_3300 (by decide) (fun c_5101 => ?_) (fun c_5101 => ?_)
            · refine lv_goto (tgt := 4264) hx hb dL_law_3322 (by decide) ?_
              refine W.widen (k := 200 + 300) (n := 8000 + 2000) (Nat.le_of_ble_eq_true rfl) (Nat.le_of_ble_eq_true rfl) ?_
              exact kk _ _ _ hS (lv_sub hl [7, 2] rfl)
            · exact absurd c_5101 (by decide)
          · exact absurd c_5100 (by decide)
        · obtain ⟨c_5102, c_5103, c_5104, c_5105, c_5106⟩ := hw
          exact absurd c_5080 c_5105
        · obtain ⟨c_5107, c_5108, c_5109, c_5110, c_5111, c_5112⟩ := hw
          exact absurd c_5080 c_5110
        · obtain ⟨c_5113, c_5114, c_5115, c_5116, c_5117, c_5118, c_5119⟩ := hw
          exact absurd c_5080 c_5116
        · obtain ⟨c_5120, c_5121, c_5122, c_5123, c_5124, c_5125, c_5126, c_5127⟩ := hw
          exact absurd c_5080 c_5123
        · obtain ⟨c_5128, c_5129, c_5130⟩ := hw
          exact absurd c_5128 c_5078
        · obtain ⟨c_5131, c_5132, c_5133, c_5134⟩ := hw
          exact absurd c_5131 c_5078
        · obtain ⟨c_5135, c_5136, c_5137, c_5138, c_5139⟩ := hw
          exact absurd c_5135 c_5078
        · obtain ⟨c_5140, c_5141, c_5142, c_5143, c_5144, c_5145⟩ := hw
          exact absurd c_5140 c_5078
        · obtain ⟨c_5146, c_5147, c_5148, c_5149, c_5150, c_5151, c_5152⟩ := hw
          exact absurd c_5146 c_5078
        · obtain ⟨c_5153, c_5154, c_5155, c_5156, c_5157, c_5158, c_5159, c_5160, c_5161⟩ := hw
          exact absurd c_5153 c_5078
        · obtain ⟨c_5162, c_5163, c_5164, c_5165, c_5166, c_5167, c_5168, c_5169, c_5170, c_5171⟩ := hw
          exact absurd c_5162 c_5078
        · obtain ⟨c_5172, c_5173⟩ := hw
          exact absurd c_5172 c_5077
        · obtain ⟨c_5174, c_5175, c_5176⟩ := hw
          exact absurd c_5174 c_5077
        · obtain ⟨c_5177, c_5178, c_5179, c_5180⟩ := hw
          exact absurd c_5177 c_5077
        · obtain ⟨c_5181, c_5182, c_5183, c_5184, c_5185⟩ := hw
          exact absurd c_5181 c_5077
        · obtain ⟨c_5186, c_5187, c_5188, c_5189, c_5190, c_5191⟩ := hw
          exact absurd c_5186 c_5077
        · obtain ⟨c_5192, c_5193, c_5194, c_5195, c_5196, c_5197, c_5198, c_5199⟩ := hw
          exact absurd c_5192 c_5077
        · obtain ⟨c_5200, c_5201, c_5202, c_5203, c_5204, c_5205, c_5206, c_5207, c_5208⟩ := hw
          exact absurd c_5200 c_5077
        · obtain ⟨c_5209, c_5210, c_5211, c_5212, c_5213, c_5214, c_5215, c_5216, c_5217, c_5218⟩ := hw
          exact absurd c_5209 c_5077
        · obtain ⟨c_5219, c_5220, c_5221, c_5222, c_5223, c_5224, c_5225, c_5226, c_5227, c_5228, c_5229⟩ := hw
          exact absurd c_5219 c_5077
        · obtain ⟨c_5230, c_5231, c_5232, c_5233, c_5234⟩ := hw
          exact absurd c_5230 c_5076
        · obtain ⟨c_5235, c_5236, c_5237, c_5238, c_5239, c_5240⟩ := hw
          exact absurd c_5235 c_5076
        · obtain ⟨c_5241, c_5242, c_5243, c_5244, c_5245, c_5246, c_5247⟩ := hw
          exact absurd c_5241 c_5076
        · obtain ⟨c_5248, c_5249, c_5250, c_5251, c_5252, c_5253, c_5254, c_5255⟩ := hw
          exact absurd c_5248 c_5076
        · obtain ⟨c_5256, c_5257, c_5258, c_5259, c_5260⟩ := hw
          exact absurd c_5256 c_5075
        · obtain ⟨c_5261, c_5262, c_5263, c_5264, c_5265, c_5266⟩ := hw
          exact absurd c_5261 c_5075
        · obtain ⟨c_5267, c_5268, c_5269, c_5270, c_5271, c_5272, c_5273⟩ := hw
          exact absurd c_5267 c_5075
        · obtain ⟨c_5274, c_5275, c_5276, c_5277, c_5278, c_5279, c_5280, c_5281⟩ := hw
          exact absurd c_5274 c_5075
      · obtain ⟨rfl, rfl, hw⟩ := hw
        rcases hw with hw | hw | hw | hw | hw
        · obtain ⟨c_5282, c_5283, c_5284, c_5285, c_5286, c_5287, c_5288, c_5289⟩ := hw
          exact absurd c_5080 c_5285
        · obtain ⟨c_5290, c_5291, c_5292, c_5293, c_5294, c_5295, c_5296, c_5297, c_5298, c_5299⟩ := hw
          exact absurd c_5290 c_5078
        · obtain ⟨c_5300, c_5301, c_5302, c_5303, c_5304, c_5305, c_5306, c_5307, c_5308, c_5309, c_5310⟩ := hw
          exact absurd c_5300 c_5077
        · obtain ⟨c_5311, c_5312, c_5313, c_5314, c_5315, c_5316, c_5317, c_5318⟩ := hw
          exact absurd c_5311 c_5076
        · obtain ⟨c_5319, c_5320, c_5321, c_5322, c_5323, c_5324, c_5325, c_5326⟩ := hw
          exact absurd c_5319 c_5075
    · obtain ⟨c_5327, c_5328, c_5329, c_5330, c_5331, c_5332, c_5333, c_5334⟩ := hw
      obtain ⟨hP1, hD1⟩ := hB
      rw [ht1] at hP1
      obtain ⟨hP, hD⟩ := va_join (wr := [((a 200), f_m a g)]) (w1 := [(o1, .inl (g 1, 1, .inr (.inl (fun _ => 0))))]) hP hD [3, 0, 1] [2] rfl rfl (by decide) (by decide) hk1 hFc hP1 hD1
      have hP : va_P D vwCl [((a 200), f_m a g), (o1, .inl (g 1, 1, .inr (.inl (fun _ => 0))))] H := hP
      have hD : va_D (va_A [] s.heap.size) [((a 200), f_m a g), (o1, .inl (g 1, 1, .inr (.inl (fun _ => 0))))] := hD
      refine lv_istore (lv' := [(6, .int 1), (0, .ref b), (1, .ref (a 0)), (2, .ref (a 200)), (3, .ref o1), (4, .ref o2), (5, .int 0)]) hx hb dL_law_3248 hl (by decide) rfl (fun ls hl => ?_)
      refine lv_aload_n hx hb dL_law_3250 rfl (lv_at hl 3 rfl) ?_
      refine lv_aload_n hx hb dL_law_3251 rfl (lv_at hl 1 rfl) ?_
      refine lv_iload hx hb dL_law_3252 (lv_at hl 6 rfl) ?_
      refine lv_iconst (v := 1) hx hb dL_law_3254 (by decide) ?_
      refine lv_iadd hx hb dL_law_3255 ?_
      refine r_topi (v := 1) (by decide) ?_
      refine va_sld hx hb hX hbl hbA hS (by unfold vp_in; decide) dL_law_3256 ?_
      refine r_topi (v := xs 1) (congrArg xs (by decide)) ?_
      refine lv_i2c (v := ((xs 1).toUInt32 % 65536).toInt32) hx hb dL_law_3257 rfl ?_
      refine lv_aload_n hx hb dL_law_3258 rfl (lv_at hl 1 rfl) ?_
      refine lv_iload hx hb dL_law_3259 (lv_at hl 6 rfl) ?_
      refine lv_iconst (v := 2) hx hb dL_law_3261 (by decide) ?_
      refine lv_iadd hx hb dL_law_3262 ?_
      refine r_topi (v := 2) (by decide) ?_
      refine va_sld hx hb hX hbl hbA hS (by unfold vp_in; decide) dL_law_3263 ?_
      refine r_topi (v := xs 2) (congrArg xs (by decide)) ?_
      refine lv_aload_n hx hb dL_law_3264 rfl (lv_at hl 1 rfl) ?_
      refine lv_iload hx hb dL_law_3265 (lv_at hl 6 rfl) ?_
      refine lv_iconst (v := 3) hx hb dL_law_3267 (by decide) ?_
      refine lv_iadd hx hb dL_law_3268 ?_
      refine r_topi (v := 3) (by decide) ?_
      refine va_sld hx hb hX hbl hbA hS (by unfold vp_in; decide) dL_law_3269 ?_
      refine r_topi (v := xs 3) (congrArg xs (by decide)) ?_
      refine lv_aload_n hx hb dL_law_3270 rfl (lv_at hl 1 rfl) ?_
      refine lv_iload hx hb dL_law_3271 (lv_at hl 6 rfl) ?_
      refine lv_iconst (v := 4) hx hb dL_law_3273 (by decide) ?_
      refine lv_iadd hx hb dL_law_3274 ?_
      refine r_topi (v := 4) (by decide) ?_
      refine va_sld hx hb hX hbl hbA hS (by unfold vp_in; decide) dL_law_3275 ?_
      refine r_topi (v := xs 4) (congrArg xs (by decide)) ?_
      refine lv_aload_n hx hb dL_law_3276 rfl (lv_at hl 1 rfl) ?_
      refine lv_iload hx hb dL_law_3277 (lv_at hl 6 rfl) ?_
      refine lv_iconst (v := 5) hx hb dL_law_3279 (by decide) ?_
      refine lv_iadd hx hb dL_law_3280 ?_
      refine r_topi (v := 5) (by decide) ?_
      refine va_sld hx hb hX hbl hbA hS (by unfold vp_in; decide) dL_law_3281 ?_
      refine r_topi (v := xs 5) (congrArg xs (by decide)) ?_
      have hPc : va_P D vwCl [((a 200), f_m a g)] _ := hP.sub (ws' := [((a 200), f_m a g)]) [0] rfl
      have hDc : va_D (fun q => z0 ≤ q) [((a 200), f_m a g)] := (hD.to hAz).pick (ws' := [((a 200), f_m a g)]) [0] (by decide) rfl
      have hFc := va_free (wc := [((a 200), f_m a g)]) hD hS hA [0] rfl
      refine va_calli (va_runV (As := [.int (((xs 1).toUInt32 % 65536).toInt32), .int (xs 2), .int (xs 3), .int (xs 4), .int (xs 5)]) (rest := []) ⟨hx, hb, hml, hown, ht⟩ (k_X15_marchFinds l D g z0 _ a (((xs 1).toUInt32 % 65536).toInt32) (xs 2) (xs 3) (xs 4) (xs 5) (isC_i2c _)) (cwV 5 ht (gV w_1231 w_1233 w_1234 w_334 w_1232) rfl rfl rfl (by decide +kernel) (le2 rfl rfl)) ⟨PP.blind, va_recv hK.1 hP (ci := 21) (q0 := 0) rfl rfl, PP.mk' hK hZ hz hAz hS hPc hDc⟩ rfl rfl hl.1 rfl (lv_room (Nat.le_of_ble_eq_true rfl)) dL_law_3282 (le2 rfl rfl)) hS (fun q _ h => hFc q h) hFc (fun r u t H locs ht1 hvm hw hB hz1 hk1 hS => ?_)
      rcases hw with hw | hw
      · obtain ⟨rfl, rfl, hw⟩ := hw
        rcases hw with hw | hw | hw | hw | hw | hw | hw | hw | hw | hw | hw | hw | hw | hw | hw | hw | hw | hw | hw | hw | hw | hw | hw | hw | hw | hw | hw | hw | hw | hw | hw | hw
        · obtain ⟨c_5335, c_5336, c_5337, c_5338, c_5339⟩ := hw
          exact absurd c_5331 c_5339
        · obtain ⟨c_5340, c_5341, c_5342, c_5343, c_5344⟩ := hw
          exact absurd c_5331 c_5344
        · obtain ⟨c_5345, c_5346, c_5347, c_5348, c_5349⟩ := hw
          exact absurd c_5331 c_5349
        · obtain ⟨c_5350, c_5351, c_5352, c_5353⟩ := hw
          exact absurd c_5353 c_5332
        · obtain ⟨c_5354, c_5355, c_5356, c_5357, c_5358⟩ := hw
          exact absurd (Int.le_trans (lo_lt c_5358) (up_lt c_5333)) (by decide)
        · obtain ⟨c_5359, c_5360, c_5361, c_5362, c_5363, c_5364⟩ := hw
          obtain ⟨hP1, hD1⟩ := hB
          rw [ht1] at hP1
          obtain ⟨hP, hD⟩ := va_join (wr := [(o1, .inl (g 1, 1, .inr (.inl (fun _ => 0))))]) (w1 := [((a 200), .inr (21, [.int 1, .ref (a 201), .ref (a 202), .ref (a 203), .ref (a 204), .ref (a 205), .ref (a 206), .int 0, .int 0, .int 0, .int 0, .ref (a 208), .ref (a 209), .ref (a 210), .ref (a 211), .ref (a 212), .int 4, .int 12, .int (-1), .int 0, .ref (g 200), .ref (a 213), .int 0, .int 97, .ref (a 214), .ref (a 215), .ref (a 207), .null, .int 0]))]) hP hD [0] [1] rfl rfl (by decide) (by decide) hk1 hFc hP1 hD1
          have hP : va_P D vwCl [(o1, .inl (g 1, 1, .inr (.inl (fun _ => 0)))), ((a 200), .inr (21, [.int 1, .ref (a 201), .ref (a 202), .ref (a 203), .ref (a 204), .ref (a 205), .ref (a 206), .int 0, .int 0, .int 0, .int 0, .ref (a 208), .ref (a 209), .ref (a 210), .ref (a 211), .ref (a 212), .int 4, .int 12, .int (-1), .int 0, .ref (g 200), .ref (a 213), .int 0, .int 97, .ref (a 214), .ref (a 215), .ref (a 207), .null, .int 0]))] H := hP
          have hD : va_D (va_A [] s.heap.size) [(o1, .inl (g 1, 1, .inr (.inl (fun _ => 0)))), ((a 200), .inr (21, [.int 1, .ref (a 201), .ref (a 202), .ref (a 203), .ref (a 204), .ref (a 205), .ref (a 206), .int 0, .int 0, .int 0, .int 0, .ref (a 208), .ref (a 209), .ref (a 210), .ref (a 211), .ref (a 212), .int 4, .int 12, .int (-1), .int 0, .ref (g 200), .ref (a 213), .int 0, .int 97, .ref (a 214), .ref (a 215), .ref (a 207), .null, .int 0]))] := hD
          refine lv_istore (lv' := [(7, .int 0), (6, .int 1), (0, .ref b), (1, .ref (a 0)), (2, .ref (a 200)), (3, .ref o1), (4, .ref o2), (5, .int 0)]) hx hb dL_law_3285 hl (by decide) rfl (fun ls hl => ?_)
          refine lv_aload_n hx hb dL_law_3287 rfl (lv_at hl 4 rfl) ?_
          have hPc : va_P D vwCl [((a 200), .inr (21, [.int 1, .ref (a 201), .ref (a 202), .ref (a 203), .ref (a 204), .ref (a 205), .ref (a 206), .int 0, .int 0, .int 0, .int 0, .ref (a 208), .ref (a 209), .ref (a 210), .ref (a 211), .ref (a 212), .int 4, .int 12, .int (-1), .int 0, .ref (g 200), .ref (a 213), .int 0, .int 97, .ref (a 214), .ref (a 215), .ref (a 207), .null, .int 0]))] _ := hP.sub (ws' := [((a 200), .inr (21, [.int 1, .ref (a 201), .ref (a 202), .ref (a 203), .ref (a 204), .ref (a 205), .ref (a 206), .int 0, .int 0, .int 0, .int 0, .ref (a 208), .ref (a 209), .ref (a 210), .ref (a 211), .ref (a 212), .int 4, .int 12, .int (-1), .int 0, .ref (g 200), .ref (a 213), .int 0, .int 97, .ref (a 214), .ref (a 215), .ref (a 207), .null, .int 0]))]) [1] rfl
          have hDc : va_D (fun q => z0 ≤ q) [((a 200), .inr (21, [.int 1, .ref (a 201), .ref (a 202), .ref (a 203), .ref (a 204), .ref (a 205), .ref (a 206), .int 0, .int 0, .int 0, .int 0, .ref (a 208), .ref (a 209), .ref (a 210), .ref (a 211), .ref (a 212), .int 4, .int 12, .int (-1), .int 0, .ref (g 200), .ref (a 213), .int 0, .int 97, .ref (a 214), .ref (a 215), .ref (a 207), .null, .int 0]))] := (hD.to hAz).pick (ws' := [((a 200), .inr (21, [.int 1, .ref (a 201), .ref (a 202), .ref (a 203), .ref (a 204), .ref (a 205), .ref (a 206), .int 0, .int 0, .int 0, .int 0, .ref (a 208), .ref (a 209), .ref (a 210), .ref (a 211), .ref (a 212), .int 4, .int 12, .int (-1), .int 0, .ref (g 200), .ref (a 213), .int 0, .int 97, .ref (a 214), .ref (a 215), .ref (a 207), .null, .int 0]))]) [1] (by decide) rfl
          have hFc := va_free (wc := [((a 200), .inr (21, [.int 1, .ref (a 201), .ref (a 202), .ref (a 203), .ref (a 204), .ref (a 205), .ref (a 206), .int 0, .int 0, .int 0, .int 0, .ref (a 208), .ref (a 209), .ref (a 210), .ref (a 211), .ref (a 212), .int 4, .int 12, .int (-1), .int 0, .ref (g 200), .ref (a 213), .int 0, .int 97, .ref (a 214), .ref (a 215), .ref (a 207), .null, .int 0]))]) hD hS hA [1] rfl
          refine va_calli (va_runV (As := []) (rest := []) ⟨hx, hb, hml, hown, ht⟩ (k_X15_thrown_v2 l D g z0 _ a) (cwV 0 ht (gV w_772 w_774 w_775 w_334 w_773) rfl rfl rfl (by decide +kernel) (le2 rfl rfl)) ⟨PP.blind, va_recv hK.1 hP (ci := 21) (q0 := 1) rfl rfl, PP.mk' hK hZ hz hAz hS hPc hDc⟩ rfl rfl hl.1 rfl (lv_room (Nat.le_of_ble_eq_true rfl)) dL_law_3288 (le2 rfl rfl)) hS (fun q _ h => hFc q h) hFc (fun r u t H locs ht1 hvm hw hB hz1 hk1 hS => ?_)
          obtain ⟨rfl, hw⟩ := hw
          obtain ⟨hP1, hD1⟩ := hB
          rw [ht1] at hP1
          obtain ⟨hP, hD⟩ := va_join (wr := [(o1, .inl (g 1, 1, .inr (.inl (fun _ => 0))))]) (w1 := [((a 200), .inr (21, [.int 1, .ref (a 201), .ref (a 202), .ref (a 203), .ref (a 204), .ref (a 205), .ref (a 206), .int 0, .int 0, .int 0, .int 0, .ref (a 208), .ref (a 209), .ref (a 210), .ref (a 211), .ref (a 212), .int 4, .int 12, .int (-1), .int 0, .ref (g 200), .ref (a 213), .int 0, .int 97, .ref (a 214), .ref (a 215), .ref (a 207), .null, .int 0]))]) hP hD [1] [0] rfl rfl (by decide) (by decide) hk1 hFc hP1 hD1
          have hP : va_P D vwCl [(o1, .inl (g 1, 1, .inr (.inl (fun _ => 0)))), ((a 200), .inr (21, [.int 1, .ref (a 201), .ref (a 202), .ref (a 203), .ref (a 204), .ref (a 205), .ref (a 206), .int 0, .int 0, .int 0, .int 0, .ref (a 208), .ref (a 209), .ref (a 210), .ref (a 211), .ref (a 212), .int 4, .int 12, .int (-1), .int 0, .ref (g 200), .ref (a 213), .int 0, .int 97, .ref (a 214), .ref (a 215), .ref (a 207), .null, .int 0]))] H := hP
          have hD : va_D (va_A [] s.heap.size) [(o1, .inl (g 1, 1, .inr (.inl (fun _ => 0)))), ((a 200), .inr (21, [.int 1, .ref (a 201), .ref (a 202), .ref (a 203), .ref (a 204), .ref (a 205), .ref (a 206), .int 0, .int 0, .int 0, .int 0, .ref (a 208), .ref (a 209), .ref (a 210), .ref (a 211), .ref (a 212), .int 4, .int 12, .int (-1), .int 0, .ref (g 200), .ref (a 213), .int 0, .int 97, .ref (a 214), .ref (a 215), .ref (a 207), .null, .int 0]))] := hD
          refine lv_iload hx hb dL_law_3291 (lv_at hl 1 rfl) ?_
          refine lv_icmp_eq (tgt := 3298) hx hb dL_law_3293 (by decide) (fun c_5365 => ?_) (fun c_5365 => ?_)
          · refine lv_iload hx hb dL_law_3298 (lv_at hl 1 rfl) ?_
            refine lv_if_ne (tgt := 3322) hx hb dL_law_3300 (by decide) (fun c_5366 => ?_) (fun c_5366 => ?_)
            · refine lv_goto (tgt := 4264) hx hb dL_law_3322 (by decide) ?_
              refine W.widen (k := 200 + 300) (n := 8000 + 2000) (Nat.le_of_ble_eq_true rfl) (Nat.le_of_ble_eq_true rfl) ?_
              exact kk _ _ _ hS (lv_sub hl [7, 2] rfl)
            · exact absurd c_5366 (by decide)
          · exact absurd c_5365 (by decide)
        · obtain ⟨c_5367, c_5368, c_5369, c_5370, c_5371, c_5372, c_5373⟩ := hw
          exact absurd c_5334 c_5372
        · obtain ⟨c_5374, c_5375, c_5376, c_5377, c_5378, c_5379, c_5380, c_5381⟩ := hw
          exact absurd c_5334 c_5379
        · obtain ⟨c_5382, c_5383, c_5384⟩ := hw
          exact absurd c_5382 c_5330
        · obtain ⟨c_5385, c_5386, c_5387, c_5388⟩ := hw
          exact absurd c_5385 c_5330
        · obtain ⟨c_5389, c_5390, c_5391, c_5392, c_5393⟩ := hw
          exact absurd c_5389 c_5330
        · obtain ⟨c_5394, c_5395, c_5396, c_5397, c_5398, c_5399⟩ := hw
          exact absurd c_5394 c_5330
        · obtain ⟨c_5400, c_5401, c_5402, c_5403, c_5404, c_5405, c_5406⟩ := hw
          exact absurd c_5400 c_5330
        · obtain ⟨c_5407, c_5408, c_5409, c_5410, c_5411, c_5412, c_5413, c_5414, c_5415⟩ := hw
          exact absurd c_5407 c_5330
        · obtain ⟨c_5416, c_5417, c_5418, c_5419, c_5420, c_5421, c_5422, c_5423, c_5424, c_5425⟩ := hw
          exact absurd c_5416 c_5330
        · obtain ⟨c_5426, c_5427⟩ := hw
          exact absurd c_5426 c_5329
        · obtain ⟨c_5428, c_5429, c_5430⟩ := hw
          exact absurd c_5428 c_5329
        · obtain ⟨c_5431, c_5432, c_5433, c_5434⟩ := hw
          exact absurd c_5431 c_5329
        · obtain ⟨c_5435, c_5436, c_5437, c_5438, c_5439⟩ := hw
          exact absurd c_5435 c_5329
        · obtain ⟨c_5440, c_5441, c_5442, c_5443, c_5444, c_5445⟩ := hw
          exact absurd c_5440 c_5329
        · obtain ⟨c_5446, c_5447, c_5448, c_5449, c_5450, c_5451, c_5452, c_5453⟩ := hw
          exact absurd c_5446 c_5329
        · obtain ⟨c_5454, c_5455, c_5456, c_5457, c_5458, c_5459, c_5460, c_5461, c_5462⟩ := hw
          exact absurd c_5454 c_5329
        · obtain ⟨c_5463, c_5464, c_5465, c_5466, c_5467, c_5468, c_5469, c_5470, c_5471, c_5472⟩ := hw
          exact absurd c_5463 c_5329
        · obtain ⟨c_5473, c_5474, c_5475, c_5476, c_5477, c_5478, c_5479, c_5480, c_5481, c_5482, c_5483⟩ := hw
          exact absurd c_5473 c_5329
        · obtain ⟨c_5484, c_5485, c_5486, c_5487, c_5488⟩ := hw
          exact absurd c_5484 c_5328
        · obtain ⟨c_5489, c_5490, c_5491, c_5492, c_5493, c_5494⟩ := hw
          exact absurd c_5489 c_5328
        · obtain ⟨c_5495, c_5496, c_5497, c_5498, c_5499, c_5500, c_5501⟩ := hw
          exact absurd c_5495 c_5328
        · obtain ⟨c_5502, c_5503, c_5504, c_5505, c_5506, c_5507, c_5508, c_5509⟩ := hw
          exact absurd c_5502 c_5328
        · obtain ⟨c_5510, c_5511, c_5512, c_5513, c_5514⟩ := hw
          exact absurd c_5510 c_5327
        · obtain ⟨c_5515, c_5516, c_5517, c_5518, c_5519, c_5520⟩ := hw
          exact absurd c_5515 c_5327
        · obtain ⟨c_5521, c_5522, c_5523, c_5524, c_5525, c_5526, c_5527⟩ := hw
          exact absurd c_5521 c_5327
        · obtain ⟨c_5528, c_5529, c_5530, c_5531, c_5532, c_5533, c_5534, c_5535⟩ := hw
          exact absurd c_5528 c_5327
      · obtain ⟨rfl, rfl, hw⟩ := hw
        rcases hw with hw | hw | hw | hw | hw
        · obtain ⟨c_5536, c_5537, c_5538, c_5539, c_5540, c_5541, c_5542, c_5543⟩ := hw
          exact absurd c_5334 c_5541
        · obtain ⟨c_5544, c_5545, c_5546, c_5547, c_5548, c_5549, c_5550, c_5551, c_5552, c_5553⟩ := hw
          exact absurd c_5544 c_5330
        · obtain ⟨c_5554, c_5555, c_5556, c_5557, c_5558, c_5559, c_5560, c_5561, c_5562, c_5563, c_5564⟩ := hw
          exact absurd c_5554 c_5329
        · obtain ⟨c_5565, c_5566, c_5567, c_5568, c_5569, c_5570, c_5571, c_5572⟩ := hw
          exact absurd c_5565 c_5328
        · obtain ⟨c_5573, c_5574, c_5575, c_5576, c_5577, c_5578, c_5579, c_5580⟩ := hw
          exact absurd c_5573 c_5327
    · obtain ⟨c_5581, c_5582, c_5583, c_5584, c_5585, c_5586, c_5587, c_5588, c_5589⟩ := hw
      obtain ⟨hP1, hD1⟩ := hB
      rw [ht1] at hP1
      obtain ⟨hP, hD⟩ := va_join (wr := [((a 200), f_m a g)]) (w1 := [(o1, .inl (g 1, 1, .inr (.inl (fun _ => 0))))]) hP hD [3, 0, 1] [2] rfl rfl (by decide) (by decide) hk1 hFc hP1 hD1
      have hP : va_P D vwCl [((a 200), f_m a g), (o1, .inl (g 1, 1, .inr (.inl (fun _ => 0))))] H := hP
      have hD : va_D (va_A [] s.heap.size) [((a 200), f_m a g), (o1, .inl (g 1, 1, .inr (.inl (fun _ => 0))))] := hD
      refine lv_istore (lv' := [(6, .int 1), (0, .ref b), (1, .ref (a 0)), (2, .ref (a 200)), (3, .ref o1), (4, .ref o2), (5, .int 0)]) hx hb dL_law_3248 hl (by decide) rfl (fun ls hl => ?_)
      refine lv_aload_n hx hb dL_law_3250 rfl (lv_at hl 3 rfl) ?_
      refine lv_aload_n hx hb dL_law_3251 rfl (lv_at hl 1 rfl) ?_
      refine lv_iload hx hb dL_law_3252 (lv_at hl 6 rfl) ?_
      refine lv_iconst (v := 1) hx hb dL_law_3254 (by decide) ?_
      refine lv_iadd hx hb dL_law_3255 ?_
      refine r_topi (v := 1) (by decide) ?_
      refine va_sld hx hb hX hbl hbA hS (by unfold vp_in; decide) dL_law_3256 ?_
      refine r_topi (v := xs 1) (congrArg xs (by decide)) ?_
      refine lv_i2c (v := ((xs 1).toUInt32 % 65536).toInt32) hx hb dL_law_3257 rfl ?_
      refine lv_aload_n hx hb dL_law_3258 rfl (lv_at hl 1 rfl) ?_
      refine lv_iload hx hb dL_law_3259 (lv_at hl 6 rfl) ?_
      refine lv_iconst (v := 2) hx hb dL_law_3261 (by decide) ?_
      refine lv_iadd hx hb dL_law_3262 ?_
      refine r_topi (v := 2) (by decide) ?_
      refine va_sld hx hb hX hbl hbA hS (by unfold vp_in; decide) dL_law_3263 ?_
      refine r_topi (v := xs 2) (congrArg xs (by decide)) ?_
      refine lv_aload_n hx hb dL_law_3264 rfl (lv_at hl 1 rfl) ?_
      refine lv_iload hx hb dL_law_3265 (lv_at hl 6 rfl) ?_
      refine lv_iconst (v := 3) hx hb dL_law_3267 (by decide) ?_
      refine lv_iadd hx hb dL_law_3268 ?_
      refine r_topi (v := 3) (by decide) ?_
      refine va_sld hx hb hX hbl hbA hS (by unfold vp_in; decide) dL_law_3269 ?_
      refine r_topi (v := xs 3) (congrArg xs (by decide)) ?_
      refine lv_aload_n hx hb dL_law_3270 rfl (lv_at hl 1 rfl) ?_
      refine lv_iload hx hb dL_law_3271 (lv_at hl 6 rfl) ?_
      refine lv_iconst (v := 4) hx hb dL_law_3273 (by decide) ?_
      refine lv_iadd hx hb dL_law_3274 ?_
      refine r_topi (v := 4) (by decide) ?_
      refine va_sld hx hb hX hbl hbA hS (by unfold vp_in; decide) dL_law_3275 ?_
      refine r_topi (v := xs 4) (congrArg xs (by decide)) ?_
      refine lv_aload_n hx hb dL_law_3276 rfl (lv_at hl 1 rfl) ?_
      refine lv_iload hx hb dL_law_3277 (lv_at hl 6 rfl) ?_
      refine lv_iconst (v := 5) hx hb dL_law_3279 (by decide) ?_
      refine lv_iadd hx hb dL_law_3280 ?_
      refine r_topi (v := 5) (by decide) ?_
      refine va_sld hx hb hX hbl hbA hS (by unfold vp_in; decide) dL_law_3281 ?_
      refine r_topi (v := xs 5) (congrArg xs (by decide)) ?_
      have hPc : va_P D vwCl [((a 200), f_m a g)] _ := hP.sub (ws' := [((a 200), f_m a g)]) [0] rfl
      have hDc : va_D (fun q => z0 ≤ q) [((a 200), f_m a g)] := (hD.to hAz).pick (ws' := [((a 200), f_m a g)]) [0] (by decide) rfl
      have hFc := va_free (wc := [((a 200), f_m a g)]) hD hS hA [0] rfl
      refine va_calli (va_runV (As := [.int (((xs 1).toUInt32 % 65536).toInt32), .int (xs 2), .int (xs 3), .int (xs 4), .int (xs 5)]) (rest := []) ⟨hx, hb, hml, hown, ht⟩ (k_X15_marchFinds l D g z0 _ a (((xs 1).toUInt32 % 65536).toInt32) (xs 2) (xs 3) (xs 4) (xs 5) (isC_i2c _)) (cwV 5 ht (gV w_1231 w_1233 w_1234 w_334 w_1232) rfl rfl rfl (by decide +kernel) (le2 rfl rfl)) ⟨PP.blind, va_recv hK.1 hP (ci := 21) (q0 := 0) rfl rfl, PP.mk' hK hZ hz hAz hS hPc hDc⟩ rfl rfl hl.1 rfl (lv_room (Nat.le_of_ble_eq_true rfl)) dL_law_3282 (le2 rfl rfl)) hS (fun q _ h => hFc q h) hFc (fun r u t H locs ht1 hvm hw hB hz1 hk1 hS => ?_)
      rcases hw with hw | hw
      · obtain ⟨rfl, rfl, hw⟩ := hw
        rcases hw with hw | hw | hw | hw | hw | hw | hw | hw | hw | hw | hw | hw | hw | hw | hw | hw | hw | hw | hw | hw | hw | hw | hw | hw | hw | hw | hw | hw | hw | hw | hw | hw
        · obtain ⟨c_5590, c_5591, c_5592, c_5593, c_5594⟩ := hw
          exact absurd c_5585 c_5594
        · obtain ⟨c_5595, c_5596, c_5597, c_5598, c_5599⟩ := hw
          exact absurd c_5585 c_5599
        · obtain ⟨c_5600, c_5601, c_5602, c_5603, c_5604⟩ := hw
          exact absurd c_5585 c_5604
        · obtain ⟨c_5605, c_5606, c_5607, c_5608⟩ := hw
          exact absurd c_5608 c_5586
        · obtain ⟨c_5609, c_5610, c_5611, c_5612, c_5613⟩ := hw
          exact absurd (Int.le_trans (lo_lt c_5613) (up_lt c_5587)) (by decide)
        · obtain ⟨c_5614, c_5615, c_5616, c_5617, c_5618, c_5619⟩ := hw
          exact absurd c_5619 c_5588
        · obtain ⟨c_5620, c_5621, c_5622, c_5623, c_5624, c_5625, c_5626⟩ := hw
          obtain ⟨hP1, hD1⟩ := hB
          rw [ht1] at hP1
          obtain ⟨hP, hD⟩ := va_join (wr := [(o1, .inl (g 1, 1, .inr (.inl (fun _ => 0))))]) (w1 := [((a 200), .inr (21, [.int 1, .ref (a 201), .ref (a 202), .ref (a 203), .ref (a 204), .ref (a 205), .ref (a 206), .int 0, .int 0, .int 0, .int 0, .ref (a 208), .ref (a 209), .ref (a 210), .ref (a 211), .ref (a 212), .int 4, .int 12, .int (-1), .int 0, .ref (g 200), .ref (a 213), .int 0, .int 97, .ref (a 214), .ref (a 215), .ref (a 207), .null, .int 0]))]) hP hD [0] [1] rfl rfl (by decide) (by decide) hk1 hFc hP1 hD1
          have hP : va_P D vwCl [(o1, .inl (g 1, 1, .inr (.inl (fun _ => 0)))), ((a 200), .inr (21, [.int 1, .ref (a 201), .ref (a 202), .ref (a 203), .ref (a 204), .ref (a 205), .ref (a 206), .int 0, .int 0, .int 0, .int 0, .ref (a 208), .ref (a 209), .ref (a 210), .ref (a 211), .ref (a 212), .int 4, .int 12, .int (-1), .int 0, .ref (g 200), .ref (a 213), .int 0, .int 97, .ref (a 214), .ref (a 215), .ref (a 207), .null, .int 0]))] H := hP
          have hD : va_D (va_A [] s.heap.size) [(o1, .inl (g 1, 1, .inr (.inl (fun _ => 0)))), ((a 200), .inr (21, [.int 1, .ref (a 201), .ref (a 202), .ref (a 203), .ref (a 204), .ref (a 205), .ref (a 206), .int 0, .int 0, .int 0, .int 0, .ref (a 208), .ref (a 209), .ref (a 210), .ref (a 211), .ref (a 212), .int 4, .int 12, .int (-1), .int 0, .ref (g 200), .ref (a 213), .int 0, .int 97, .ref (a 214), .ref (a 215), .ref (a 207), .null, .int 0]))] := hD
          refine lv_istore (lv' := [(7, .int 0), (6, .int 1), (0, .ref b), (1, .ref (a 0)), (2, .ref (a 200)), (3, .ref o1), (4, .ref o2), (5, .int 0)]) hx hb dL_law_3285 hl (by decide) rfl (fun ls hl => ?_)
          refine lv_aload_n hx hb dL_law_3287 rfl (lv_at hl 4 rfl) ?_
          have hPc : va_P D vwCl [((a 200), .inr (21, [.int 1, .ref (a 201), .ref (a 202), .ref (a 203), .ref (a 204), .ref (a 205), .ref (a 206), .int 0, .int 0, .int 0, .int 0, .ref (a 208), .ref (a 209), .ref (a 210), .ref (a 211), .ref (a 212), .int 4, .int 12, .int (-1), .int 0, .ref (g 200), .ref (a 213), .int 0, .int 97, .ref (a 214), .ref (a 215), .ref (a 207), .null, .int 0]))] _ := hP.sub (ws' := [((a 200), .inr (21, [.int 1, .ref (a 201), .ref (a 202), .ref (a 203), .ref (a 204), .ref (a 205), .ref (a 206), .int 0, .int 0, .int 0, .int 0, .ref (a 208), .ref (a 209), .ref (a 210), .ref (a 211), .ref (a 212), .int 4, .int 12, .int (-1), .int 0, .ref (g 200), .ref (a 213), .int 0, .int 97, .ref (a 214), .ref (a 215), .ref (a 207), .null, .int 0]))]) [1] rfl
          have hDc : va_D (fun q => z0 ≤ q) [((a 200), .inr (21, [.int 1, .ref (a 201), .ref (a 202), .ref (a 203), .ref (a 204), .ref (a 205), .ref (a 206), .int 0, .int 0, .int 0, .int 0, .ref (a 208), .ref (a 209), .ref (a 210), .ref (a 211), .ref (a 212), .int 4, .int 12, .int (-1), .int 0, .ref (g 200), .ref (a 213), .int 0, .int 97, .ref (a 214), .ref (a 215), .ref (a 207), .null, .int 0]))] := (hD.to hAz).pick (ws' := [((a 200), .inr (21, [.int 1, .ref (a 201), .ref (a 202), .ref (a 203), .ref (a 204), .ref (a 205), .ref (a 206), .int 0, .int 0, .int 0, .int 0, .ref (a 208), .ref (a 209), .ref (a 210), .ref (a 211), .ref (a 212), .int 4, .int 12, .int (-1), .int 0, .ref (g 200), .ref (a 213), .int 0, .int 97, .ref (a 214), .ref (a 215), .ref (a 207), .null, .int 0]))]) [1] (by decide) rfl
          have hFc := va_free (wc := [((a 200), .inr (21, [.int 1, .ref (a 201), .ref (a 202), .ref (a 203), .ref (a 204), .ref (a 205), .ref (a 206), .int 0, .int 0, .int 0, .int 0, .ref (a 208), .ref (a 209), .ref (a 210), .ref (a 211), .ref (a 212), .int 4, .int 12, .int (-1), .int 0, .ref (g 200), .ref (a 213), .int 0, .int 97, .ref (a 214), .ref (a 215), .ref (a 207), .null, .int 0]))]) hD hS hA [1] rfl
          refine va_calli (va_runV (As := []) (rest := []) ⟨hx, hb, hml, hown, ht⟩ (k_X15_thrown_v2 l D g z0 _ a) (cwV 0 ht (gV w_772 w_774 w_775 w_334 w_773) rfl rfl rfl (by decide +kernel) (le2 rfl rfl)) ⟨PP.blind, va_recv hK.1 hP (ci := 21) (q0 := 1) rfl rfl, PP.mk' hK hZ hz hAz hS hPc hDc⟩ rfl rfl hl.1 rfl (lv_room (Nat.le_of_ble_eq_true rfl)) dL_law_3288 (le2 rfl rfl)) hS (fun q _ h => hFc q h) hFc (fun r u t H locs ht1 hvm hw hB hz1 hk1 hS => ?_)
          obtain ⟨rfl, hw⟩ := hw
          obtain ⟨hP1, hD1⟩ := hB
          rw [ht1] at hP1
          obtain ⟨hP, hD⟩ := va_join (wr := [(o1, .inl (g 1, 1, .inr (.inl (fun _ => 0))))]) (w1 := [((a 200), .inr (21, [.int 1, .ref (a 201), .ref (a 202), .ref (a 203), .ref (a 204), .ref (a 205), .ref (a 206), .int 0, .int 0, .int 0, .int 0, .ref (a 208), .ref (a 209), .ref (a 210), .ref (a 211), .ref (a 212), .int 4, .int 12, .int (-1), .int 0, .ref (g 200), .ref (a 213), .int 0, .int 97, .ref (a 214), .ref (a 215), .ref (a 207), .null, .int 0]))]) hP hD [1] [0] rfl rfl (by decide) (by decide) hk1 hFc hP1 hD1
          have hP : va_P D vwCl [(o1, .inl (g 1, 1, .inr (.inl (fun _ => 0)))), ((a 200), .inr (21, [.int 1, .ref (a 201), .ref (a 202), .ref (a 203), .ref (a 204), .ref (a 205), .ref (a 206), .int 0, .int 0, .int 0, .int 0, .ref (a 208), .ref (a 209), .ref (a 210), .ref (a 211), .ref (a 212), .int 4, .int 12, .int (-1), .int 0, .ref (g 200), .ref (a 213), .int 0, .int 97, .ref (a 214), .ref (a 215), .ref (a 207), .null, .int 0]))] H := hP
          have hD : va_D (va_A [] s.heap.size) [(o1, .inl (g 1, 1, .inr (.inl (fun _ => 0)))), ((a 200), .inr (21, [.int 1, .ref (a 201), .ref (a 202), .ref (a 203), .ref (a 204), .ref (a 205), .ref (a 206), .int 0, .int 0, .int 0, .int 0, .ref (a 208), .ref (a 209), .ref (a 210), .ref (a 211), .ref (a 212), .int 4, .int 12, .int (-1), .int 0, .ref (g 200), .ref (a 213), .int 0, .int 97, .ref (a 214), .ref (a 215), .ref (a 207), .null, .int 0]))] := hD
          refine lv_iload hx hb dL_law_3291 (lv_at hl 1 rfl) ?_
          refine lv_icmp_eq (tgt := 3298) hx hb dL_law_3293 (by decide) (fun c_5627 => ?_) (fun c_5627 => ?_)
          · refine lv_iload hx hb dL_law_3298 (lv_at hl 1 rfl) ?_
            refine lv_if_ne (tgt := 3322) hx hb dL_law_3300 (by decide) (fun c_5628 => ?_) (fun c_5628 => ?_)
            · refine lv_goto (tgt := 4264) hx hb dL_law_3322 (by decide) ?_
              refine W.widen (k := 200 + 300) (n := 8000 + 2000) (Nat.le_of_ble_eq_true rfl) (Nat.le_of_ble_eq_true rfl) ?_
              exact kk _ _ _ hS (lv_sub hl [7, 2] rfl)
            · exact absurd c_5628 (by decide)
          · exact absurd c_5627 (by decide)
        · obtain ⟨c_5629, c_5630, c_5631, c_5632, c_5633, c_5634, c_5635, c_5636⟩ := hw
          exact absurd (Int.le_trans (lo_le c_5589) (up_nlt c_5635)) (by decide)
        · obtain ⟨c_5637, c_5638, c_5639⟩ := hw
          exact absurd c_5637 c_5584
        · obtain ⟨c_5640, c_5641, c_5642, c_5643⟩ := hw
          exact absurd c_5640 c_5584
        · obtain ⟨c_5644, c_5645, c_5646, c_5647, c_5648⟩ := hw
          exact absurd c_5644 c_5584
        · obtain ⟨c_5649, c_5650, c_5651, c_5652, c_5653, c_5654⟩ := hw
          exact absurd c_5649 c_5584
        · obtain ⟨c_5655, c_5656, c_5657, c_5658, c_5659, c_5660, c_5661⟩ := hw
          exact absurd c_5655 c_5584
        · obtain ⟨c_5662, c_5663, c_5664, c_5665, c_5666, c_5667, c_5668, c_5669, c_5670⟩ := hw
          exact absurd c_5662 c_5584
        · obtain ⟨c_5671, c_5672, c_5673, c_5674, c_5675, c_5676, c_5677, c_5678, c_5679, c_5680⟩ := hw
          exact absurd c_5671 c_5584
        · obtain ⟨c_5681, c_5682⟩ := hw
          exact absurd c_5681 c_5583
        · obtain ⟨c_5683, c_5684, c_5685⟩ := hw
          exact absurd c_5683 c_5583
        · obtain ⟨c_5686, c_5687, c_5688, c_5689⟩ := hw
          exact absurd c_5686 c_5583
        · obtain ⟨c_5690, c_5691, c_5692, c_5693, c_5694⟩ := hw
          exact absurd c_5690 c_5583
        · obtain ⟨c_5695, c_5696, c_5697, c_5698, c_5699, c_5700⟩ := hw
          exact absurd c_5695 c_5583
        · obtain ⟨c_5701, c_5702, c_5703, c_5704, c_5705, c_5706, c_5707, c_5708⟩ := hw
          exact absurd c_5701 c_5583
        · obtain ⟨c_5709, c_5710, c_5711, c_5712, c_5713, c_5714, c_5715, c_5716, c_5717⟩ := hw
          exact absurd c_5709 c_5583
        · obtain ⟨c_5718, c_5719, c_5720, c_5721, c_5722, c_5723, c_5724, c_5725, c_5726, c_5727⟩ := hw
          exact absurd c_5718 c_5583
        · obtain ⟨c_5728, c_5729, c_5730, c_5731, c_5732, c_5733, c_5734, c_5735, c_5736, c_5737, c_5738⟩ := hw
          exact absurd c_5728 c_5583
        · obtain ⟨c_5739, c_5740, c_5741, c_5742, c_5743⟩ := hw
          exact absurd c_5739 c_5582
        · obtain ⟨c_5744, c_5745, c_5746, c_5747, c_5748, c_5749⟩ := hw
          exact absurd c_5744 c_5582
        · obtain ⟨c_5750, c_5751, c_5752, c_5753, c_5754, c_5755, c_5756⟩ := hw
          exact absurd c_5750 c_5582
        · obtain ⟨c_5757, c_5758, c_5759, c_5760, c_5761, c_5762, c_5763, c_5764⟩ := hw
          exact absurd c_5757 c_5582
        · obtain ⟨c_5765, c_5766, c_5767, c_5768, c_5769⟩ := hw
          exact absurd c_5765 c_5581
        · obtain ⟨c_5770, c_5771, c_5772, c_5773, c_5774, c_5775⟩ := hw
          exact absurd c_5770 c_5581
        · obtain ⟨c_5776, c_5777, c_5778, c_5779, c_5780, c_5781, c_5782⟩ := hw
          exact absurd c_5776 c_5581
        · obtain ⟨c_5783, c_5784, c_5785, c_5786, c_5787, c_5788, c_5789, c_5790⟩ := hw
          exact absurd c_5783 c_5581
      · obtain ⟨rfl, rfl, hw⟩ := hw
        rcases hw with hw | hw | hw | hw | hw
        · obtain ⟨c_5791, c_5792, c_5793, c_5794, c_5795, c_5796, c_5797, c_5798⟩ := hw
          exact absurd (Int.le_trans (lo_le c_5589) (up_nlt c_5797)) (by decide)
        · obtain ⟨c_5799, c_5800, c_5801, c_5802, c_5803, c_5804, c_5805, c_5806, c_5807, c_5808⟩ := hw
          exact absurd c_5799 c_5584
        · obtain ⟨c_5809, c_5810, c_5811, c_5812, c_5813, c_5814, c_5815, c_5816, c_5817, c_5818, c_5819⟩ := hw
          exact absurd c_5809 c_5583
        · obtain ⟨c_5820, c_5821, c_5822, c_5823, c_5824, c_5825, c_5826, c_5827⟩ := hw
          exact absurd c_5820 c_5582
        · obtain ⟨c_5828, c_5829, c_5830, c_5831, c_5832, c_5833, c_5834, c_5835⟩ := hw
          exact absurd c_5828 c_5581
    · obtain ⟨c_5836, c_5837, c_5838, c_5839, c_5840, c_5841, c_5842, c_5843, c_5844, c_5845⟩ := hw
      obtain ⟨hP1, hD1⟩ := hB
      rw [ht1] at hP1
      obtain ⟨hP, hD⟩ := va_join (wr := [((a 200), f_m a g)]) (w1 := [(o1, .inl (g 1, 1, .inr (.inl (fun _ => 0))))]) hP hD [3, 0, 1] [2] rfl rfl (by decide) (by decide) hk1 hFc hP1 hD1
      have hP : va_P D vwCl [((a 200), f_m a g), (o1, .inl (g 1, 1, .inr (.inl (fun _ => 0))))] H := hP
      have hD : va_D (va_A [] s.heap.size) [((a 200), f_m a g), (o1, .inl (g 1, 1, .inr (.inl (fun _ => 0))))] := hD
      refine lv_istore (lv' := [(6, .int 1), (0, .ref b), (1, .ref (a 0)), (2, .ref (a 200)), (3, .ref o1), (4, .ref o2), (5, .int 0)]) hx hb dL_law_3248 hl (by decide) rfl (fun ls hl => ?_)
      refine lv_aload_n hx hb dL_law_3250 rfl (lv_at hl 3 rfl) ?_
      refine lv_aload_n hx hb dL_law_3251 rfl (lv_at hl 1 rfl) ?_
      refine lv_iload hx hb dL_law_3252 (lv_at hl 6 rfl) ?_
      refine lv_iconst (v := 1) hx hb dL_law_3254 (by decide) ?_
      refine lv_iadd hx hb dL_law_3255 ?_
      refine r_topi (v := 1) (by decide) ?_
      refine va_sld hx hb hX hbl hbA hS (by unfold vp_in; decide) dL_law_3256 ?_
      refine r_topi (v := xs 1) (congrArg xs (by decide)) ?_
      refine lv_i2c (v := ((xs 1).toUInt32 % 65536).toInt32) hx hb dL_law_3257 rfl ?_
      refine lv_aload_n hx hb dL_law_3258 rfl (lv_at hl 1 rfl) ?_
      refine lv_iload hx hb dL_law_3259 (lv_at hl 6 rfl) ?_
      refine lv_iconst (v := 2) hx hb dL_law_3261 (by decide) ?_
      refine lv_iadd hx hb dL_law_3262 ?_
      refine r_topi (v := 2) (by decide) ?_
      refine va_sld hx hb hX hbl hbA hS (by unfold vp_in; decide) dL_law_3263 ?_
      refine r_topi (v := xs 2) (congrArg xs (by decide)) ?_
      refine lv_aload_n hx hb dL_law_3264 rfl (lv_at hl 1 rfl) ?_
      refine lv_iload hx hb dL_law_3265 (lv_at hl 6 rfl) ?_
      refine lv_iconst (v := 3) hx hb dL_law_3267 (by decide) ?_
      refine lv_iadd hx hb dL_law_3268 ?_
      refine r_topi (v := 3) (by decide) ?_
      refine va_sld hx hb hX hbl hbA hS (by unfold vp_in; decide) dL_law_3269 ?_
      refine r_topi (v := xs 3) (congrArg xs (by decide)) ?_
      refine lv_aload_n hx hb dL_law_3270 rfl (lv_at hl 1 rfl) ?_
      refine lv_iload hx hb dL_law_3271 (lv_at hl 6 rfl) ?_
      refine lv_iconst (v := 4) hx hb dL_law_3273 (by decide) ?_
      refine lv_iadd hx hb dL_law_3274 ?_
      refine r_topi (v := 4) (by decide) ?_
      refine va_sld hx hb hX hbl hbA hS (by unfold vp_in; decide) dL_law_3275 ?_
      refine r_topi (v := xs 4) (congrArg xs (by decide)) ?_
      refine lv_aload_n hx hb dL_law_3276 rfl (lv_at hl 1 rfl) ?_
      refine lv_iload hx hb dL_law_3277 (lv_at hl 6 rfl) ?_
      refine lv_iconst (v := 5) hx hb dL_law_3279 (by decide) ?_
      refine lv_iadd hx hb dL_law_3280 ?_
      refine r_topi (v := 5) (by decide) ?_
      refine va_sld hx hb hX hbl hbA hS (by unfold vp_in; decide) dL_law_3281 ?_
      refine r_topi (v := xs 5) (congrArg xs (by decide)) ?_
      have hPc : va_P D vwCl [((a 200), f_m a g)] _ := hP.sub (ws' := [((a 200), f_m a g)]) [0] rfl
      have hDc : va_D (fun q => z0 ≤ q) [((a 200), f_m a g)] := (hD.to hAz).pick (ws' := [((a 200), f_m a g)]) [0] (by decide) rfl
      have hFc := va_free (wc := [((a 200), f_m a g)]) hD hS hA [0] rfl
      refine va_calli (va_runV (As := [.int (((xs 1).toUInt32 % 65536).toInt32), .int (xs 2), .int (xs 3), .int (xs 4), .int (xs 5)]) (rest := []) ⟨hx, hb, hml, hown, ht⟩ (k_X15_marchFinds l D g z0 _ a (((xs 1).toUInt32 % 65536).toInt32) (xs 2) (xs 3) (xs 4) (xs 5) (isC_i2c _)) (cwV 5 ht (gV w_1231 w_1233 w_1234 w_334 w_1232) rfl rfl rfl (by decide +kernel) (le2 rfl rfl)) ⟨PP.blind, va_recv hK.1 hP (ci := 21) (q0 := 0) rfl rfl, PP.mk' hK hZ hz hAz hS hPc hDc⟩ rfl rfl hl.1 rfl (lv_room (Nat.le_of_ble_eq_true rfl)) dL_law_3282 (le2 rfl rfl)) hS (fun q _ h => hFc q h) hFc (fun r u t H locs ht1 hvm hw hB hz1 hk1 hS => ?_)
      rcases hw with hw | hw
      · obtain ⟨rfl, rfl, hw⟩ := hw
        rcases hw with hw | hw | hw | hw | hw | hw | hw | hw | hw | hw | hw | hw | hw | hw | hw | hw | hw | hw | hw | hw | hw | hw | hw | hw | hw | hw | hw | hw | hw | hw | hw | hw
        · obtain ⟨c_5846, c_5847, c_5848, c_5849, c_5850⟩ := hw
          exact absurd c_5840 c_5850
        · obtain ⟨c_5851, c_5852, c_5853, c_5854, c_5855⟩ := hw
          exact absurd c_5840 c_5855
        · obtain ⟨c_5856, c_5857, c_5858, c_5859, c_5860⟩ := hw
          exact absurd c_5840 c_5860
        · obtain ⟨c_5861, c_5862, c_5863, c_5864⟩ := hw
          exact absurd c_5864 c_5841
        · obtain ⟨c_5865, c_5866, c_5867, c_5868, c_5869⟩ := hw
          exact absurd (Int.le_trans (lo_lt c_5869) (up_lt c_5842)) (by decide)
        · obtain ⟨c_5870, c_5871, c_5872, c_5873, c_5874, c_5875⟩ := hw
          exact absurd c_5875 c_5843
        · obtain ⟨c_5876, c_5877, c_5878, c_5879, c_5880, c_5881, c_5882⟩ := hw
          exact absurd (Int.le_trans (lo_lt c_5882) (up_nle c_5844)) (by decide)
        · obtain ⟨c_5883, c_5884, c_5885, c_5886, c_5887, c_5888, c_5889, c_5890⟩ := hw
          obtain ⟨hP1, hD1⟩ := hB
          rw [ht1] at hP1
          obtain ⟨hP, hD⟩ := va_join (wr := [(o1, .inl (g 1, 1, .inr (.inl (fun _ => 0))))]) (w1 := [((a 200), .inr (21, [.int 1, .ref (a 201), .ref (a 202), .ref (a 203), .ref (a 204), .ref (a 205), .ref (a 206), .int 0, .int 0, .int 0, .int 0, .ref (a 208), .ref (a 209), .ref (a 210), .ref (a 211), .ref (a 212), .int 4, .int 12, .int (-1), .int 0, .ref (g 200), .ref (a 213), .int 0, .int 97, .ref (a 214), .ref (a 215), .ref (a 207), .null, .int 0]))]) hP hD [0] [1] rfl rfl (by decide) (by decide) hk1 hFc hP1 hD1
          have hP : va_P D vwCl [(o1, .inl (g 1, 1, .inr (.inl (fun _ => 0)))), ((a 200), .inr (21, [.int 1, .ref (a 201), .ref (a 202), .ref (a 203), .ref (a 204), .ref (a 205), .ref (a 206), .int 0, .int 0, .int 0, .int 0, .ref (a 208), .ref (a 209), .ref (a 210), .ref (a 211), .ref (a 212), .int 4, .int 12, .int (-1), .int 0, .ref (g 200), .ref (a 213), .int 0, .int 97, .ref (a 214), .ref (a 215), .ref (a 207), .null, .int 0]))] H := hP
          have hD : va_D (va_A [] s.heap.size) [(o1, .inl (g 1, 1, .inr (.inl (fun _ => 0)))), ((a 200), .inr (21, [.int 1, .ref (a 201), .ref (a 202), .ref (a 203), .ref (a 204), .ref (a 205), .ref (a 206), .int 0, .int 0, .int 0, .int 0, .ref (a 208), .ref (a 209), .ref (a 210), .ref (a 211), .ref (a 212), .int 4, .int 12, .int (-1), .int 0, .ref (g 200), .ref (a 213), .int 0, .int 97, .ref (a 214), .ref (a 215), .ref (a 207), .null, .int 0]))] := hD
          refine lv_istore (lv' := [(7, .int 0), (6, .int 1), (0, .ref b), (1, .ref (a 0)), (2, .ref (a 200)), (3, .ref o1), (4, .ref o2), (5, .int 0)]) hx hb dL_law_3285 hl (by decide) rfl (fun ls hl => ?_)
          refine lv_aload_n hx hb dL_law_3287 rfl (lv_at hl 4 rfl) ?_
          have hPc : va_P D vwCl [((a 200), .inr (21, [.int 1, .ref (a 201), .ref (a 202), .ref (a 203), .ref (a 204), .ref (a 205), .ref (a 206), .int 0, .int 0, .int 0, .int 0, .ref (a 208), .ref (a 209), .ref (a 210), .ref (a 211), .ref (a 212), .int 4, .int 12, .int (-1), .int 0, .ref (g 200), .ref (a 213), .int 0, .int 97, .ref (a 214), .ref (a 215), .ref (a 207), .null, .int 0]))] _ := hP.sub (ws' := [((a 200), .inr (21, [.int 1, .ref (a 201), .ref (a 202), .ref (a 203), .ref (a 204), .ref (a 205), .ref (a 206), .int 0, .int 0, .int 0, .int 0, .ref (a 208), .ref (a 209), .ref (a 210), .ref (a 211), .ref (a 212), .int 4, .int 12, .int (-1), .int 0, .ref (g 200), .ref (a 213), .int 0, .int 97, .ref (a 214), .ref (a 215), .ref (a 207), .null, .int 0]))]) [1] rfl
          have hDc : va_D (fun q => z0 ≤ q) [((a 200), .inr (21, [.int 1, .ref (a 201), .ref (a 202), .ref (a 203), .ref (a 204), .ref (a 205), .ref (a 206), .int 0, .int 0, .int 0, .int 0, .ref (a 208), .ref (a 209), .ref (a 210), .ref (a 211), .ref (a 212), .int 4, .int 12, .int (-1), .int 0, .ref (g 200), .ref (a 213), .int 0, .int 97, .ref (a 214), .ref (a 215), .ref (a 207), .null, .int 0]))] := (hD.to hAz).pick (ws' := [((a 200), .inr (21, [.int 1, .ref (a 201), .ref (a 202), .ref (a 203), .ref (a 204), .ref (a 205), .ref (a 206), .int 0, .int 0, .int 0, .int 0, .ref (a 208), .ref (a 209), .ref (a 210), .ref (a 211), .ref (a 212), .int 4, .int 12, .int (-1), .int 0, .ref (g 200), .ref (a 213), .int 0, .int 97, .ref (a 214), .ref (a 215), .ref (a 207), .null, .int 0]))]) [1] (by decide) rfl
          have hFc := va_free (wc := [((a 200), .inr (21, [.int 1, .ref (a 201), .ref (a 202), .ref (a 203), .ref (a 204), .ref (a 205), .ref (a 206), .int 0, .int 0, .int 0, .int 0, .ref (a 208), .ref (a 209), .ref (a 210), .ref (a 211), .ref (a 212), .int 4, .int 12, .int (-1), .int 0, .ref (g 200), .ref (a 213), .int 0, .int 97, .ref (a 214), .ref (a 215), .ref (a 207), .null, .int 0]))]) hD hS hA [1] rfl
          refine va_calli (va_runV (As := []) (rest := []) ⟨hx, hb, hml, hown, ht⟩ (k_X15_thrown_v2 l D g z0 _ a) (cwV 0 ht (gV w_772 w_774 w_775 w_334 w_773) rfl rfl rfl (by decide +kernel) (le2 rfl rfl)) ⟨PP.blind, va_recv hK.1 hP (ci := 21) (q0 := 1) rfl rfl, PP.mk' hK hZ hz hAz hS hPc hDc⟩ rfl rfl hl.1 rfl (lv_room (Nat.le_of_ble_eq_true rfl)) dL_law_3288 (le2 rfl rfl)) hS (fun q _ h => hFc q h) hFc (fun r u t H locs ht1 hvm hw hB hz1 hk1 hS => ?_)
          obtain ⟨rfl, hw⟩ := hw
          obtain ⟨hP1, hD1⟩ := hB
          rw [ht1] at hP1
          obtain ⟨hP, hD⟩ := va_join (wr := [(o1, .inl (g 1, 1, .inr (.inl (fun _ => 0))))]) (w1 := [((a 200), .inr (21, [.int 1, .ref (a 201), .ref (a 202), .ref (a 203), .ref (a 204), .ref (a 205), .ref (a 206), .int 0, .int 0, .int 0, .int 0, .ref (a 208), .ref (a 209), .ref (a 210), .ref (a 211), .ref (a 212), .int 4, .int 12, .int (-1), .int 0, .ref (g 200), .ref (a 213), .int 0, .int 97, .ref (a 214), .ref (a 215), .ref (a 207), .null, .int 0]))]) hP hD [1] [0] rfl rfl (by decide) (by decide) hk1 hFc hP1 hD1
          have hP : va_P D vwCl [(o1, .inl (g 1, 1, .inr (.inl (fun _ => 0)))), ((a 200), .inr (21, [.int 1, .ref (a 201), .ref (a 202), .ref (a 203), .ref (a 204), .ref (a 205), .ref (a 206), .int 0, .int 0, .int 0, .int 0, .ref (a 208), .ref (a 209), .ref (a 210), .ref (a 211), .ref (a 212), .int 4, .int 12, .int (-1), .int 0, .ref (g 200), .ref (a 213), .int 0, .int 97, .ref (a 214), .ref (a 215), .ref (a 207), .null, .int 0]))] H := hP
          have hD : va_D (va_A [] s.heap.size) [(o1, .inl (g 1, 1, .inr (.inl (fun _ => 0)))), ((a 200), .inr (21, [.int 1, .ref (a 201), .ref (a 202), .ref (a 203), .ref (a 204), .ref (a 205), .ref (a 206), .int 0, .int 0, .int 0, .int 0, .ref (a 208), .ref (a 209), .ref (a 210), .ref (a 211), .ref (a 212), .int 4, .int 12, .int (-1), .int 0, .ref (g 200), .ref (a 213), .int 0, .int 97, .ref (a 214), .ref (a 215), .ref (a 207), .null, .int 0]))] := hD
          refine lv_iload hx hb dL_law_3291 (lv_at hl 1 rfl) ?_
          refine lv_icmp_eq (tgt := 3298) hx hb dL_law_3293 (by decide) (fun c_5891 => ?_) (fun c_5891 => ?_)
          · refine lv_iload hx hb dL_law_3298 (lv_at hl 1 rfl) ?_
            refine lv_if_ne (tgt := 3322) hx hb dL_law_3300 (by decide) (fun c_5892 => ?_) (fun c_5892 => ?_)
            · refine lv_goto (tgt := 4264) hx hb dL_law_3322 (by decide) ?_
              refine W.widen (k := 200 + 300) (n := 8000 + 2000) (Nat.le_of_ble_eq_true rfl) (Nat.le_of_ble_eq_true rfl) ?_
              exact kk _ _ _ hS (lv_sub hl [7, 2] rfl)
            · exact absurd c_5892 (by decide)
          · exact absurd c_5891 (by decide)
        · obtain ⟨c_5893, c_5894, c_5895⟩ := hw
          exact absurd c_5893 c_5839
        · obtain ⟨c_5896, c_5897, c_5898, c_5899⟩ := hw
          exact absurd c_5896 c_5839
        · obtain ⟨c_5900, c_5901, c_5902, c_5903, c_5904⟩ := hw
          exact absurd c_5900 c_5839
        · obtain ⟨c_5905, c_5906, c_5907, c_5908, c_5909, c_5910⟩ := hw
          exact absurd c_5905 c_5839
        · obtain ⟨c_5911, c_5912, c_5913, c_5914, c_5915, c_5916, c_5917⟩ := hw
          exact absurd c_5911 c_5839
        · obtain ⟨c_5918, c_5919, c_5920, c_5921, c_5922, c_5923, c_5924, c_5925, c_5926⟩ := hw
          exact absurd c_5918 c_5839
        · obtain ⟨c_5927, c_5928, c_5929, c_5930, c_5931, c_5932, c_5933, c_5934, c_5935, c_5936⟩ := hw
          exact absurd c_5927 c_5839
        · obtain ⟨c_5937, c_5938⟩ := hw
          exact absurd c_5937 c_5838
        · obtain ⟨c_5939, c_5940, c_5941⟩ := hw
          exact absurd c_5939 c_5838
        · obtain ⟨c_5942, c_5943, c_5944, c_5945⟩ := hw
          exact absurd c_5942 c_5838
        · obtain ⟨c_5946, c_5947, c_5948, c_5949, c_5950⟩ := hw
          exact absurd c_5946 c_5838
        · obtain ⟨c_5951, c_5952, c_5953, c_5954, c_5955, c_5956⟩ := hw
          exact absurd c_5951 c_5838
        · obtain ⟨c_5957, c_5958, c_5959, c_5960, c_5961, c_5962, c_5963, c_5964⟩ := hw
          exact absurd c_5957 c_5838
        · obtain ⟨c_5965, c_5966, c_5967, c_5968, c_5969, c_5970, c_5971, c_5972, c_5973⟩ := hw
          exact absurd c_5965 c_5838
        · obtain ⟨c_5974, c_5975, c_5976, c_5977, c_5978, c_5979, c_5980, c_5981, c_5982, c_5983⟩ := hw
          exact absurd c_5974 c_5838
        · obtain ⟨c_5984, c_5985, c_5986, c_5987, c_5988, c_5989, c_5990, c_5991, c_5992, c_5993, c_5994⟩ := hw
          exact absurd c_5984 c_5838
        · obtain ⟨c_5995, c_5996, c_5997, c_5998, c_5999⟩ := hw
          exact absurd c_5995 c_5837
        · obtain ⟨c_6000, c_6001, c_6002, c_6003, c_6004, c_6005⟩ := hw
          exact absurd c_6000 c_5837
        · obtain ⟨c_6006, c_6007, c_6008, c_6009, c_6010, c_6011, c_6012⟩ := hw
          exact absurd c_6006 c_5837
        · obtain ⟨c_6013, c_6014, c_6015, c_6016, c_6017, c_6018, c_6019, c_6020⟩ := hw
          exact absurd c_6013 c_5837
        · obtain ⟨c_6021, c_6022, c_6023, c_6024, c_6025⟩ := hw
          exact absurd c_6021 c_5836
        · obtain ⟨c_6026, c_6027, c_6028, c_6029, c_6030, c_6031⟩ := hw
          exact absurd c_6026 c_5836
        · obtain ⟨c_6032, c_6033, c_6034, c_6035, c_6036, c_6037, c_6038⟩ := hw
          exact absurd c_6032 c_5836
        · obtain ⟨c_6039, c_6040, c_6041, c_6042, c_6043, c_6044, c_6045, c_6046⟩ := hw
          exact absurd c_6039 c_5836
      · obtain ⟨rfl, rfl, hw⟩ := hw
        rcases hw with hw | hw | hw | hw | hw
        · obtain ⟨c_6047, c_6048, c_6049, c_6050, c_6051, c_6052, c_6053, c_6054⟩ := hw
          exact absurd c_5845 c_6054
        · obtain ⟨c_6055, c_6056, c_6057, c_6058, c_6059, c_6060, c_6061, c_6062, c_6063, c_6064⟩ := hw
          exact absurd c_6055 c_5839
        · obtain ⟨c_6065, c_6066, c_6067, c_6068, c_6069, c_6070, c_6071, c_6072, c_6073, c_6074, c_6075⟩ := hw
          exact absurd c_6065 c_5838
        · obtain ⟨c_6076, c_6077, c_6078, c_6079, c_6080, c_6081, c_6082, c_6083⟩ := hw
          exact absurd c_6076 c_5837
        · obtain ⟨c_6084, c_6085, c_6086, c_6087, c_6088, c_6089, c_6090, c_6091⟩ := hw
          exact absurd c_6084 c_5836
    · obtain ⟨c_6092, c_6093, c_6094, c_6095, c_6096, c_6097, c_6098⟩ := hw
      obtain ⟨hP1, hD1⟩ := hB
      rw [ht1] at hP1
      obtain ⟨hP, hD⟩ := va_join (wr := [((a 200), f_m a g)]) (w1 := [(o1, .inl (g 1, 1, .inr (.inl (fun _ => 0))))]) hP hD [3, 0, 1] [2] rfl rfl (by decide) (by decide) hk1 hFc hP1 hD1
      have hP : va_P D vwCl [((a 200), f_m a g), (o1, .inl (g 1, 1, .inr (.inl (fun _ => 0))))] H := hP
      have hD : va_D (va_A [] s.heap.size) [((a 200), f_m a g), (o1, .inl (g 1, 1, .inr (.inl (fun _ => 0))))] := hD
      refine lv_istore (lv' := [(6, .int 1), (0, .ref b), (1, .ref (a 0)), (2, .ref (a 200)), (3, .ref o1), (4, .ref o2), (5, .int 0)]) hx hb dL_law_3248 hl (by decide) rfl (fun ls hl => ?_)
      refine lv_aload_n hx hb dL_law_3250 rfl (lv_at hl 3 rfl) ?_
      refine lv_aload_n hx hb dL_law_3251 rfl (lv_at hl 1 rfl) ?_
      refine lv_iload hx hb dL_law_3252 (lv_at hl 6 rfl) ?_
      refine lv_iconst (v := 1) hx hb dL_law_3254 (by decide) ?_
      refine lv_iadd hx hb dL_law_3255 ?_
      refine r_topi (v := 1) (by decide) ?_
      refine va_sld hx hb hX hbl hbA hS (by unfold vp_in; decide) dL_law_3256 ?_
      refine r_topi (v := xs 1) (congrArg xs (by decide)) ?_
      refine lv_i2c (v := ((xs 1).toUInt32 % 65536).toInt32) hx hb dL_law_3257 rfl ?_
      refine lv_aload_n hx hb dL_law_3258 rfl (lv_at hl 1 rfl) ?_
      refine lv_iload hx hb dL_law_3259 (lv_at hl 6 rfl) ?_
      refine lv_iconst (v := 2) hx hb dL_law_3261 (by decide) ?_
      refine lv_iadd hx hb dL_law_3262 ?_
      refine r_topi (v := 2) (by decide) ?_
      refine va_sld hx hb hX hbl hbA hS (by unfold vp_in; decide) dL_law_3263 ?_
      refine r_topi (v := xs 2) (congrArg xs (by decide)) ?_
      refine lv_aload_n hx hb dL_law_3264 rfl (lv_at hl 1 rfl) ?_
      refine lv_iload hx hb dL_law_3265 (lv_at hl 6 rfl) ?_
      refine lv_iconst (v := 3) hx hb dL_law_3267 (by decide) ?_
      refine lv_iadd hx hb dL_law_3268 ?_
      refine r_topi (v := 3) (by decide) ?_
      refine va_sld hx hb hX hbl hbA hS (by unfold vp_in; decide) dL_law_3269 ?_
      refine r_topi (v := xs 3) (congrArg xs (by decide)) ?_
      refine lv_aload_n hx hb dL_law_3270 rfl (lv_at hl 1 rfl) ?_
      refine lv_iload hx hb dL_law_3271 (lv_at hl 6 rfl) ?_
      refine lv_iconst (v := 4) hx hb dL_law_3273 (by decide) ?_
      refine lv_iadd hx hb dL_law_3274 ?_
      refine r_topi (v := 4) (by decide) ?_
      refine va_sld hx hb hX hbl hbA hS (by unfold vp_in; decide) dL_law_3275 ?_
      refine r_topi (v := xs 4) (congrArg xs (by decide)) ?_
      refine lv_aload_n hx hb dL_law_3276 rfl (lv_at hl 1 rfl) ?_
      refine lv_iload hx hb dL_law_3277 (lv_at hl 6 rfl) ?_
      refine lv_iconst (v := 5) hx hb dL_law_3279 (by decide) ?_
      refine lv_iadd hx hb dL_law_3280 ?_
      refine r_topi (v := 5) (by decide) ?_
      refine va_sld hx hb hX hbl hbA hS (by unfold vp_in; decide) dL_law_3281 ?_
      refine r_topi (v := xs 5) (congrArg xs (by decide)) ?_
      have hPc : va_P D vwCl [((a 200), f_m a g)] _ := hP.sub (ws' := [((a 200), f_m a g)]) [0] rfl
      have hDc : va_D (fun q => z0 ≤ q) [((a 200), f_m a g)] := (hD.to hAz).pick (ws' := [((a 200), f_m a g)]) [0] (by decide) rfl
      have hFc := va_free (wc := [((a 200), f_m a g)]) hD hS hA [0] rfl
      refine va_calli (va_runV (As := [.int (((xs 1).toUInt32 % 65536).toInt32), .int (xs 2), .int (xs 3), .int (xs 4), .int (xs 5)]) (rest := []) ⟨hx, hb, hml, hown, ht⟩ (k_X15_marchFinds l D g z0 _ a (((xs 1).toUInt32 % 65536).toInt32) (xs 2) (xs 3) (xs 4) (xs 5) (isC_i2c _)) (cwV 5 ht (gV w_1231 w_1233 w_1234 w_334 w_1232) rfl rfl rfl (by decide +kernel) (le2 rfl rfl)) ⟨PP.blind, va_recv hK.1 hP (ci := 21) (q0 := 0) rfl rfl, PP.mk' hK hZ hz hAz hS hPc hDc⟩ rfl rfl hl.1 rfl (lv_room (Nat.le_of_ble_eq_true rfl)) dL_law_3282 (le2 rfl rfl)) hS (fun q _ h => hFc q h) hFc (fun r u t H locs ht1 hvm hw hB hz1 hk1 hS => ?_)
      rcases hw with hw | hw
      · obtain ⟨rfl, rfl, hw⟩ := hw
        rcases hw with hw | hw | hw | hw | hw | hw | hw | hw | hw | hw | hw | hw | hw | hw | hw | hw | hw | hw | hw | hw | hw | hw | hw | hw | hw | hw | hw | hw | hw | hw | hw | hw
        · obtain ⟨c_6099, c_6100, c_6101, c_6102, c_6103⟩ := hw
          exact absurd c_6096 c_6103
        · obtain ⟨c_6104, c_6105, c_6106, c_6107, c_6108⟩ := hw
          exact absurd c_6096 c_6108
        · obtain ⟨c_6109, c_6110, c_6111, c_6112, c_6113⟩ := hw
          exact absurd c_6096 c_6113
        · obtain ⟨c_6114, c_6115, c_6116, c_6117⟩ := hw
          exact absurd c_6117 c_6097
        · obtain ⟨c_6118, c_6119, c_6120, c_6121, c_6122⟩ := hw
          obtain ⟨hP1, hD1⟩ := hB
          rw [ht1] at hP1
          obtain ⟨hP, hD⟩ := va_join (wr := [(o1, .inl (g 1, 1, .inr (.inl (fun _ => 0))))]) (w1 := [((a 200), .inr (21, [.int 1, .ref (a 201), .ref (a 202), .ref (a 203), .ref (a 204), .ref (a 205), .ref (a 206), .int 0, .int 0, .int 0, .int 0, .ref (a 208), .ref (a 209), .ref (a 210), .ref (a 211), .ref (a 212), .int 4, .int 12, .int (-1), .int 0, .ref (g 200), .ref (a 213), .int 0, .int 97, .ref (a 214), .ref (a 215), .ref (a 207), .null, .int 0]))]) hP hD [0] [1] rfl rfl (by decide) (by decide) hk1 hFc hP1 hD1
          have hP : va_P D vwCl [(o1, .inl (g 1, 1, .inr (.inl (fun _ => 0)))), ((a 200), .inr (21, [.int 1, .ref (a 201), .ref (a 202), .ref (a 203), .ref (a 204), .ref (a 205), .ref (a 206), .int 0, .int 0, .int 0, .int 0, .ref (a 208), .ref (a 209), .ref (a 210), .ref (a 211), .ref (a 212), .int 4, .int 12, .int (-1), .int 0, .ref (g 200), .ref (a 213), .int 0, .int 97, .ref (a 214), .ref (a 215), .ref (a 207), .null, .int 0]))] H := hP
          have hD : va_D (va_A [] s.heap.size) [(o1, .inl (g 1, 1, .inr (.inl (fun _ => 0)))), ((a 200), .inr (21, [.int 1, .ref (a 201), .ref (a 202), .ref (a 203), .ref (a 204), .ref (a 205), .ref (a 206), .int 0, .int 0, .int 0, .int 0, .ref (a 208), .ref (a 209), .ref (a 210), .ref (a 211), .ref (a 212), .int 4, .int 12, .int (-1), .int 0, .ref (g 200), .ref (a 213), .int 0, .int 97, .ref (a 214), .ref (a 215), .ref (a 207), .null, .int 0]))] := hD
          refine lv_istore (lv' := [(7, .int 0), (6, .int 1), (0, .ref b), (1, .ref (a 0)), (2, .ref (a 200)), (3, .ref o1), (4, .ref o2), (5, .int 0)]) hx hb dL_law_3285 hl (by decide) rfl (fun ls hl => ?_)
          refine lv_aload_n hx hb dL_law_3287 rfl (lv_at hl 4 rfl) ?_
          have hPc : va_P D vwCl [((a 200), .inr (21, [.int 1, .ref (a 201), .ref (a 202), .ref (a 203), .ref (a 204), .ref (a 205), .ref (a 206), .int 0, .int 0, .int 0, .int 0, .ref (a 208), .ref (a 209), .ref (a 210), .ref (a 211), .ref (a 212), .int 4, .int 12, .int (-1), .int 0, .ref (g 200), .ref (a 213), .int 0, .int 97, .ref (a 214), .ref (a 215), .ref (a 207), .null, .int 0]))] _ := hP.sub (ws' := [((a 200), .inr (21, [.int 1, .ref (a 201), .ref (a 202), .ref (a 203), .ref (a 204), .ref (a 205), .ref (a 206), .int 0, .int 0, .int 0, .int 0, .ref (a 208), .ref (a 209), .ref (a 210), .ref (a 211), .ref (a 212), .int 4, .int 12, .int (-1), .int 0, .ref (g 200), .ref (a 213), .int 0, .int 97, .ref (a 214), .ref (a 215), .ref (a 207), .null, .int 0]))]) [1] rfl
          have hDc : va_D (fun q => z0 ≤ q) [((a 200), .inr (21, [.int 1, .ref (a 201), .ref (a 202), .ref (a 203), .ref (a 204), .ref (a 205), .ref (a 206), .int 0, .int 0, .int 0, .int 0, .ref (a 208), .ref (a 209), .ref (a 210), .ref (a 211), .ref (a 212), .int 4, .int 12, .int (-1), .int 0, .ref (g 200), .ref (a 213), .int 0, .int 97, .ref (a 214), .ref (a 215), .ref (a 207), .null, .int 0]))] := (hD.to hAz).pick (ws' := [((a 200), .inr (21, [.int 1, .ref (a 201), .ref (a 202), .ref (a 203), .ref (a 204), .ref (a 205), .ref (a 206), .int 0, .int 0, .int 0, .int 0, .ref (a 208), .ref (a 209), .ref (a 210), .ref (a 211), .ref (a 212), .int 4, .int 12, .int (-1), .int 0, .ref (g 200), .ref (a 213), .int 0, .int 97, .ref (a 214), .ref (a 215), .ref (a 207), .null, .int 0]))]) [1] (by decide) rfl
          have hFc := va_free (wc := [((a 200), .inr (21, [.int 1, .ref (a 201), .ref (a 202), .ref (a 203), .ref (a 204), .ref (a 205), .ref (a 206), .int 0, .int 0, .int 0, .int 0, .ref (a 208), .ref (a 209), .ref (a 210), .ref (a 211), .ref (a 212), .int 4, .int 12, .int (-1), .int 0, .ref (g 200), .ref (a 213), .int 0, .int 97, .ref (a 214), .ref (a 215), .ref (a 207), .null, .int 0]))]) hD hS hA [1] rfl
          refine va_calli (va_runV (As := []) (rest := []) ⟨hx, hb, hml, hown, ht⟩ (k_X15_thrown_v2 l D g z0 _ a) (cwV 0 ht (gV w_772 w_774 w_775 w_334 w_773) rfl rfl rfl (by decide +kernel) (le2 rfl rfl)) ⟨PP.blind, va_recv hK.1 hP (ci := 21) (q0 := 1) rfl rfl, PP.mk' hK hZ hz hAz hS hPc hDc⟩ rfl rfl hl.1 rfl (lv_room (Nat.le_of_ble_eq_true rfl)) dL_law_3288 (le2 rfl rfl)) hS (fun q _ h => hFc q h) hFc (fun r u t H locs ht1 hvm hw hB hz1 hk1 hS => ?_)
          obtain ⟨rfl, hw⟩ := hw
          obtain ⟨hP1, hD1⟩ := hB
          rw [ht1] at hP1
          obtain ⟨hP, hD⟩ := va_join (wr := [(o1, .inl (g 1, 1, .inr (.inl (fun _ => 0))))]) (w1 := [((a 200), .inr (21, [.int 1, .ref (a 201), .ref (a 202), .ref (a 203), .ref (a 204), .ref (a 205), .ref (a 206), .int 0, .int 0, .int 0, .int 0, .ref (a 208), .ref (a 209), .ref (a 210), .ref (a 211), .ref (a 212), .int 4, .int 12, .int (-1), .int 0, .ref (g 200), .ref (a 213), .int 0, .int 97, .ref (a 214), .ref (a 215), .ref (a 207), .null, .int 0]))]) hP hD [1] [0] rfl rfl (by decide) (by decide) hk1 hFc hP1 hD1
          have hP : va_P D vwCl [(o1, .inl (g 1, 1, .inr (.inl (fun _ => 0)))), ((a 200), .inr (21, [.int 1, .ref (a 201), .ref (a 202), .ref (a 203), .ref (a 204), .ref (a 205), .ref (a 206), .int 0, .int 0, .int 0, .int 0, .ref (a 208), .ref (a 209), .ref (a 210), .ref (a 211), .ref (a 212), .int 4, .int 12, .int (-1), .int 0, .ref (g 200), .ref (a 213), .int 0, .int 97, .ref (a 214), .ref (a 215), .ref (a 207), .null, .int 0]))] H := hP
          have hD : va_D (va_A [] s.heap.size) [(o1, .inl (g 1, 1, .inr (.inl (fun _ => 0)))), ((a 200), .inr (21, [.int 1, .ref (a 201), .ref (a 202), .ref (a 203), .ref (a 204), .ref (a 205), .ref (a 206), .int 0, .int 0, .int 0, .int 0, .ref (a 208), .ref (a 209), .ref (a 210), .ref (a 211), .ref (a 212), .int 4, .int 12, .int (-1), .int 0, .ref (g 200), .ref (a 213), .int 0, .int 97, .ref (a 214), .ref (a 215), .ref (a 207), .null, .int 0]))] := hD
          refine lv_iload hx hb dL_law_3291 (lv_at hl 1 rfl) ?_
          refine lv_icmp_eq (tgt := 3298) hx hb dL_law_3293 (by decide) (fun c_6123 => ?_) (fun c_6123 => ?_)
          · refine lv_iload hx hb dL_law_3298 (lv_at hl 1 rfl) ?_
            refine lv_if_ne (tgt := 3322) hx hb dL_law_3300 (by decide) (fun c_6124 => ?_) (fun c_6124 => ?_)
            · refine lv_goto (tgt := 4264) hx hb dL_law_3322 (by decide) ?_
              refine W.widen (k := 200 + 300) (n := 8000 + 2000) (Nat.le_of_ble_eq_true rfl) (Nat.le_of_ble_eq_true rfl) ?_
              exact kk _ _ _ hS (lv_sub hl [7, 2] rfl)
            · exact absurd c_6124 (by decide)
          · exact absurd c_6123 (by decide)
        · obtain ⟨c_6125, c_6126, c_6127, c_6128, c_6129, c_6130⟩ := hw
          exact absurd (Int.le_trans (lo_nlt c_6098) (up_nlt c_6129)) (by decide)
        · obtain ⟨c_6131, c_6132, c_6133, c_6134, c_6135, c_6136, c_6137⟩ := hw
          exact absurd (Int.le_trans (lo_nlt c_6098) (up_nlt c_6135)) (by decide)
        · obtain ⟨c_6138, c_6139, c_6140, c_6141, c_6142, c_6143, c_6144, c_6145⟩ := hw
          exact absurd (Int.le_trans (lo_nlt c_6098) (up_nlt c_6142)) (by decide)
        · obtain ⟨c_6146, c_6147, c_6148⟩ := hw
          exact absurd c_6146 c_6095
        · obtain ⟨c_6149, c_6150, c_6151, c_6152⟩ := hw
          exact absurd c_6149 c_6095
        · obtain ⟨c_6153, c_6154, c_6155, c_6156, c_6157⟩ := hw
          exact absurd c_6153 c_6095
        · obtain ⟨c_6158, c_6159, c_6160, c_6161, c_6162, c_6163⟩ := hw
          exact absurd c_6158 c_6095
        · obtain ⟨c_6164, c_6165, c_6166, c_6167, c_6168, c_6169, c_6170⟩ := hw
          exact absurd c_6164 c_6095
        · obtain ⟨c_6171, c_6172, c_6173, c_6174, c_6175, c_6176, c_6177, c_6178, c_6179⟩ := hw
          exact absurd c_6171 c_6095
        · obtain ⟨c_6180, c_6181, c_6182, c_6183, c_6184, c_6185, c_6186, c_6187, c_6188, c_6189⟩ := hw
          exact absurd c_6180 c_6095
        · obtain ⟨c_6190, c_6191⟩ := hw
          exact absurd c_6190 c_6094
        · obtain ⟨c_6192, c_6193, c_6194⟩ := hw
          exact absurd c_6192 c_6094
        · obtain ⟨c_6195, c_6196, c_6197, c_6198⟩ := hw
          exact absurd c_6195 c_6094
        · obtain ⟨c_6199, c_6200, c_6201, c_6202, c_6203⟩ := hw
          exact absurd c_6199 c_6094
        · obtain ⟨c_6204, c_6205, c_6206, c_6207, c_6208, c_6209⟩ := hw
          exact absurd c_6204 c_6094
        · obtain ⟨c_6210, c_6211, c_6212, c_6213, c_6214, c_6215, c_6216, c_6217⟩ := hw
          exact absurd c_6210 c_6094
        · obtain ⟨c_6218, c_6219, c_6220, c_6221, c_6222, c_6223, c_6224, c_6225, c_6226⟩ := hw
          exact absurd c_6218 c_6094
        · obtain ⟨c_6227, c_6228, c_6229, c_6230, c_6231, c_6232, c_6233, c_6234, c_6235, c_6236⟩ := hw
          exact absurd c_6227 c_6094
        · obtain ⟨c_6237, c_6238, c_6239, c_6240, c_6241, c_6242, c_6243, c_6244, c_6245, c_6246, c_6247⟩ := hw
          exact absurd c_6237 c_6094
        · obtain ⟨c_6248, c_6249, c_6250, c_6251, c_6252⟩ := hw
          exact absurd c_6248 c_6093
        · obtain ⟨c_6253, c_6254, c_6255, c_6256, c_6257, c_6258⟩ := hw
          exact absurd c_6253 c_6093
        · obtain ⟨c_6259, c_6260, c_6261, c_6262, c_6263, c_6264, c_6265⟩ := hw
          exact absurd c_6259 c_6093
        · obtain ⟨c_6266, c_6267, c_6268, c_6269, c_6270, c_6271, c_6272, c_6273⟩ := hw
          exact absurd c_6266 c_6093
        · obtain ⟨c_6274, c_6275, c_6276, c_6277, c_6278⟩ := hw
          exact absurd c_6274 c_6092
        · obtain ⟨c_6279, c_6280, c_6281, c_6282, c_6283, c_6284⟩ := hw
          exact absurd c_6279 c_6092
        · obtain ⟨c_6285, c_6286, c_6287, c_6288, c_6289, c_6290, c_6291⟩ := hw
          exact absurd c_6285 c_6092
        · obtain ⟨c_6292, c_6293, c_6294, c_6295, c_6296, c_6297, c_6298, c_6299⟩ := hw
          exact absurd c_6292 c_6092
      · obtain ⟨rfl, rfl, hw⟩ := hw
        rcases hw with hw | hw | hw | hw | hw
        · obtain ⟨c_6300, c_6301, c_6302, c_6303, c_6304, c_6305, c_6306, c_6307⟩ := hw
          exact absurd (Int.le_trans (lo_nlt c_6098) (up_nlt c_6304)) (by decide)
        · obtain ⟨c_6308, c_6309, c_6310, c_6311, c_6312, c_6313, c_6314, c_6315, c_6316, c_6317⟩ := hw
          exact absurd c_6308 c_6095
        · obtain ⟨c_6318, c_6319, c_6320, c_6321, c_6322, c_6323, c_6324, c_6325, c_6326, c_6327, c_6328⟩ := hw
          exact absurd c_6318 c_6094
        · obtain ⟨c_6329, c_6330, c_6331, c_6332, c_6333, c_6334, c_6335, c_6336⟩ := hw
          exact absurd c_6329 c_6093
        · obtain ⟨c_6337, c_6338, c_6339, c_6340, c_6341, c_6342, c_6343, c_6344⟩ := hw
          exact absurd c_6337 c_6092
    · obtain ⟨c_6345, c_6346, c_6347, c_6348, c_6349⟩ := hw
      obtain ⟨hP1, hD1⟩ := hB
      rw [ht1] at hP1
      obtain ⟨hP, hD⟩ := va_join (wr := [((a 200), f_m a g)]) (w1 := [(o1, .inl (g 1, 1, .inr (.inl (fun _ => 0))))]) hP hD [3, 0, 1] [2] rfl rfl (by decide) (by decide) hk1 hFc hP1 hD1
      have hP : va_P D vwCl [((a 200), f_m a g), (o1, .inl (g 1, 1, .inr (.inl (fun _ => 0))))] H := hP
      have hD : va_D (va_A [] s.heap.size) [((a 200), f_m a g), (o1, .inl (g 1, 1, .inr (.inl (fun _ => 0))))] := hD
      refine lv_istore (lv' := [(6, .int 1), (0, .ref b), (1, .ref (a 0)), (2, .ref (a 200)), (3, .ref o1), (4, .ref o2), (5, .int 0)]) hx hb dL_law_3248 hl (by decide) rfl (fun ls hl => ?_)
      refine lv_aload_n hx hb dL_law_3250 rfl (lv_at hl 3 rfl) ?_
      refine lv_aload_n hx hb dL_law_3251 rfl (lv_at hl 1 rfl) ?_
      refine lv_iload hx hb dL_law_3252 (lv_at hl 6 rfl) ?_
      refine lv_iconst (v := 1) hx hb dL_law_3254 (by decide) ?_
      refine lv_iadd hx hb dL_law_3255 ?_
      refine r_topi (v := 1) (by decide) ?_
      refine va_sld hx hb hX hbl hbA hS (by unfold vp_in; decide) dL_law_3256 ?_
      refine r_topi (v := xs 1) (congrArg xs (by decide)) ?_
      refine lv_i2c (v := ((xs 1).toUInt32 % 65536).toInt32) hx hb dL_law_3257 rfl ?_
      refine lv_aload_n hx hb dL_law_3258 rfl (lv_at hl 1 rfl) ?_
      refine lv_iload hx hb dL_law_3259 (lv_at hl 6 rfl) ?_
      refine lv_iconst (v := 2) hx hb dL_law_3261 (by decide) ?_
      refine lv_iadd hx hb dL_law_3262 ?_
      refine r_topi (v := 2) (by decide) ?_
      refine va_sld hx hb hX hbl hbA hS (by unfold vp_in; decide) dL_law_3263 ?_
      refine r_topi (v := xs 2) (congrArg xs (by decide)) ?_
      refine lv_aload_n hx hb dL_law_3264 rfl (lv_at hl 1 rfl) ?_
      refine lv_iload hx hb dL_law_3265 (lv_at hl 6 rfl) ?_
      refine lv_iconst (v := 3) hx hb dL_law_3267 (by decide) ?_
      refine lv_iadd hx hb dL_law_3268 ?_
      refine r_topi (v := 3) (by decide) ?_
      refine va_sld hx hb hX hbl hbA hS (by unfold vp_in; decide) dL_law_3269 ?_
      refine r_topi (v := xs 3) (congrArg xs (by decide)) ?_
      refine lv_aload_n hx hb dL_law_3270 rfl (lv_at hl 1 rfl) ?_
      refine lv_iload hx hb dL_law_3271 (lv_at hl 6 rfl) ?_
      refine lv_iconst (v := 4) hx hb dL_law_3273 (by decide) ?_
      refine lv_iadd hx hb dL_law_3274 ?_
      refine r_topi (v := 4) (by decide) ?_
      refine va_sld hx hb hX hbl hbA hS (by unfold vp_in; decide) dL_law_3275 ?_
      refine r_topi (v := xs 4) (congrArg xs (by decide)) ?_
      refine lv_aload_n hx hb dL_law_3276 rfl (lv_at hl 1 rfl) ?_
      refine lv_iload hx hb dL_law_3277 (lv_at hl 6 rfl) ?_
      refine lv_iconst (v := 5) hx hb dL_law_3279 (by decide) ?_
      refine lv_iadd hx hb dL_law_3280 ?_
      refine r_topi (v := 5) (by decide) ?_
      refine va_sld hx hb hX hbl hbA hS (by unfold vp_in; decide) dL_law_3281 ?_
      refine r_topi (v := xs 5) (congrArg xs (by decide)) ?_
      have hPc : va_P D vwCl [((a 200), f_m a g)] _ := hP.sub (ws' := [((a 200), f_m a g)]) [0] rfl
      have hDc : va_D (fun q => z0 ≤ q) [((a 200), f_m a g)] := (hD.to hAz).pick (ws' := [((a 200), f_m a g)]) [0] (by decide) rfl
      have hFc := va_free (wc := [((a 200), f_m a g)]) hD hS hA [0] rfl
      refine va_calli (va_runV (As := [.int (((xs 1).toUInt32 % 65536).toInt32), .int (xs 2), .int (xs 3), .int (xs 4), .int (xs 5)]) (rest := []) ⟨hx, hb, hml, hown, ht⟩ (k_X15_marchFinds l D g z0 _ a (((xs 1).toUInt32 % 65536).toInt32) (xs 2) (xs 3) (xs 4) (xs 5) (isC_i2c _)) (cwV 5 ht (gV w_1231 w_1233 w_1234 w_334 w_1232) rfl rfl rfl (by decide +kernel) (le2 rfl rfl)) ⟨PP.blind, va_recv hK.1 hP (ci := 21) (q0 := 0) rfl rfl, PP.mk' hK hZ hz hAz hS hPc hDc⟩ rfl rfl hl.1 rfl (lv_room (Nat.le_of_ble_eq_true rfl)) dL_law_3282 (le2 rfl rfl)) hS (fun q _ h => hFc q h) hFc (fun r u t H locs ht1 hvm hw hB hz1 hk1 hS => ?_)
      rcases hw with hw | hw
      · obtain ⟨rfl, rfl, hw⟩ := hw
        rcases hw with hw | hw | hw | hw | hw | hw | hw | hw | hw | hw | hw | hw | hw | hw | hw | hw | hw | hw | hw | hw | hw | hw | hw | hw | hw | hw | hw | hw | hw | hw | hw | hw
        · obtain ⟨c_6350, c_6351, c_6352, c_6353, c_6354⟩ := hw
          obtain ⟨hP1, hD1⟩ := hB
          rw [ht1] at hP1
          obtain ⟨hP, hD⟩ := va_join (wr := [(o1, .inl (g 1, 1, .inr (.inl (fun _ => 0))))]) (w1 := [((a 200), .inr (21, [.int 1, .ref (a 201), .ref (a 202), .ref (a 203), .ref (a 204), .ref (a 205), .ref (a 206), .int 0, .int 0, .int 0, .int 0, .ref (a 208), .ref (a 209), .ref (a 210), .ref (a 211), .ref (a 212), .int 4, .int 12, .int (-1), .int 0, .ref (g 200), .ref (a 213), .int 0, .int 97, .ref (a 214), .ref (a 215), .ref (a 207), .null, .int 0]))]) hP hD [0] [1] rfl rfl (by decide) (by decide) hk1 hFc hP1 hD1
          have hP : va_P D vwCl [(o1, .inl (g 1, 1, .inr (.inl (fun _ => 0)))), ((a 200), .inr (21, [.int 1, .ref (a 201), .ref (a 202), .ref (a 203), .ref (a 204), .ref (a 205), .ref (a 206), .int 0, .int 0, .int 0, .int 0, .ref (a 208), .ref (a 209), .ref (a 210), .ref (a 211), .ref (a 212), .int 4, .int 12, .int (-1), .int 0, .ref (g 200), .ref (a 213), .int 0, .int 97, .ref (a 214), .ref (a 215), .ref (a 207), .null, .int 0]))] H := hP
          have hD : va_D (va_A [] s.heap.size) [(o1, .inl (g 1, 1, .inr (.inl (fun _ => 0)))), ((a 200), .inr (21, [.int 1, .ref (a 201), .ref (a 202), .ref (a 203), .ref (a 204), .ref (a 205), .ref (a 206), .int 0, .int 0, .int 0, .int 0, .ref (a 208), .ref (a 209), .ref (a 210), .ref (a 211), .ref (a 212), .int 4, .int 12, .int (-1), .int 0, .ref (g 200), .ref (a 213), .int 0, .int 97, .ref (a 214), .ref (a 215), .ref (a 207), .null, .int 0]))] := hD
          refine lv_istore (lv' := [(7, .int 0), (6, .int 1), (0, .ref b), (1, .ref (a 0)), (2, .ref (a 200)), (3, .ref o1), (4, .ref o2), (5, .int 0)]) hx hb dL_law_3285 hl (by decide) rfl (fun ls hl => ?_)
          refine lv_aload_n hx hb dL_law_3287 rfl (lv_at hl 4 rfl) ?_
          have hPc : va_P D vwCl [((a 200), .inr (21, [.int 1, .ref (a 201), .ref (a 202), .ref (a 203), .ref (a 204), .ref (a 205), .ref (a 206), .int 0, .int 0, .int 0, .int 0, .ref (a 208), .ref (a 209), .ref (a 210), .ref (a 211), .ref (a 212), .int 4, .int 12, .int (-1), .int 0, .ref (g 200), .ref (a 213), .int 0, .int 97, .ref (a 214), .ref (a 215), .ref (a 207), .null, .int 0]))] _ := hP.sub (ws' := [((a 200), .inr (21, [.int 1, .ref (a 201), .ref (a 202), .ref (a 203), .ref (a 204), .ref (a 205), .ref (a 206), .int 0, .int 0, .int 0, .int 0, .ref (a 208), .ref (a 209), .ref (a 210), .ref (a 211), .ref (a 212), .int 4, .int 12, .int (-1), .int 0, .ref (g 200), .ref (a 213), .int 0, .int 97, .ref (a 214), .ref (a 215), .ref (a 207), .null, .int 0]))]) [1] rfl
          have hDc : va_D (fun q => z0 ≤ q) [((a 200), .inr (21, [.int 1, .ref (a 201), .ref (a 202), .ref (a 203), .ref (a 204), .ref (a 205), .ref (a 206), .int 0, .int 0, .int 0, .int 0, .ref (a 208), .ref (a 209), .ref (a 210), .ref (a 211), .ref (a 212), .int 4, .int 12, .int (-1), .int 0, .ref (g 200), .ref (a 213), .int 0, .int 97, .ref (a 214), .ref (a 215), .ref (a 207), .null, .int 0]))] := (hD.to hAz).pick (ws' := [((a 200), .inr (21, [.int 1, .ref (a 201), .ref (a 202), .ref (a 203), .ref (a 204), .ref (a 205), .ref (a 206), .int 0, .int 0, .int 0, .int 0, .ref (a 208), .ref (a 209), .ref (a 210), .ref (a 211), .ref (a 212), .int 4, .int 12, .int (-1), .int 0, .ref (g 200), .ref (a 213), .int 0, .int 97, .ref (a 214), .ref (a 215), .ref (a 207), .null, .int 0]))]) [1] (by decide) rfl
          have hFc := va_free (wc := [((a 200), .inr (21, [.int 1, .ref (a 201), .ref (a 202), .ref (a 203), .ref (a 204), .ref (a 205), .ref (a 206), .int 0, .int 0, .int 0, .int 0, .ref (a 208), .ref (a 209), .ref (a 210), .ref (a 211), .ref (a 212), .int 4, .int 12, .int (-1), .int 0, .ref (g 200), .ref (a 213), .int 0, .int 97, .ref (a 214), .ref (a 215), .ref (a 207), .null, .int 0]))]) hD hS hA [1] rfl
          refine va_calli (va_runV (As := []) (rest := []) ⟨hx, hb, hml, hown, ht⟩ (k_X15_thrown_v2 l D g z0 _ a) (cwV 0 ht (gV w_772 w_774 w_775 w_334 w_773) rfl rfl rfl (by decide +kernel) (le2 rfl rfl)) ⟨PP.blind, va_recv hK.1 hP (ci := 21) (q0 := 1) rfl rfl, PP.mk' hK hZ hz hAz hS hPc hDc⟩ rfl rfl hl.1 rfl (lv_room (Nat.le_of_ble_eq_true rfl)) dL_law_3288 (le2 rfl rfl)) hS (fun q _ h => hFc q h) hFc (fun r u t H locs ht1 hvm hw hB hz1 hk1 hS => ?_)
          obtain ⟨rfl, hw⟩ := hw
          obtain ⟨hP1, hD1⟩ := hB
          rw [ht1] at hP1
          obtain ⟨hP, hD⟩ := va_join (wr := [(o1, .inl (g 1, 1, .inr (.inl (fun _ => 0))))]) (w1 := [((a 200), .inr (21, [.int 1, .ref (a 201), .ref (a 202), .ref (a 203), .ref (a 204), .ref (a 205), .ref (a 206), .int 0, .int 0, .int 0, .int 0, .ref (a 208), .ref (a 209), .ref (a 210), .ref (a 211), .ref (a 212), .int 4, .int 12, .int (-1), .int 0, .ref (g 200), .ref (a 213), .int 0, .int 97, .ref (a 214), .ref (a 215), .ref (a 207), .null, .int 0]))]) hP hD [1] [0] rfl rfl (by decide) (by decide) hk1 hFc hP1 hD1
          have hP : va_P D vwCl [(o1, .inl (g 1, 1, .inr (.inl (fun _ => 0)))), ((a 200), .inr (21, [.int 1, .ref (a 201), .ref (a 202), .ref (a 203), .ref (a 204), .ref (a 205), .ref (a 206), .int 0, .int 0, .int 0, .int 0, .ref (a 208), .ref (a 209), .ref (a 210), .ref (a 211), .ref (a 212), .int 4, .int 12, .int (-1), .int 0, .ref (g 200), .ref (a 213), .int 0, .int 97, .ref (a 214), .ref (a 215), .ref (a 207), .null, .int 0]))] H := hP
          have hD : va_D (va_A [] s.heap.size) [(o1, .inl (g 1, 1, .inr (.inl (fun _ => 0)))), ((a 200), .inr (21, [.int 1, .ref (a 201), .ref (a 202), .ref (a 203), .ref (a 204), .ref (a 205), .ref (a 206), .int 0, .int 0, .int 0, .int 0, .ref (a 208), .ref (a 209), .ref (a 210), .ref (a 211), .ref (a 212), .int 4, .int 12, .int (-1), .int 0, .ref (g 200), .ref (a 213), .int 0, .int 97, .ref (a 214), .ref (a 215), .ref (a 207), .null, .int 0]))] := hD
          refine lv_iload hx hb dL_law_3291 (lv_at hl 1 rfl) ?_
          refine lv_icmp_eq (tgt := 3298) hx hb dL_law_3293 (by decide) (fun c_6355 => ?_) (fun c_6355 => ?_)
          · refine lv_iload hx hb dL_law_3298 (lv_at hl 1 rfl) ?_
            refine lv_if_ne (tgt := 3322) hx hb dL_law_3300 (by decide) (fun c_6356 => ?_) (fun c_6356 => ?_)
            · refine lv_goto (tgt := 4264) hx hb dL_law_3322 (by decide) ?_
              refine W.widen (k := 200 + 300) (n := 8000 + 2000) (Nat.le_of_ble_eq_true rfl) (Nat.le_of_ble_eq_true rfl) ?_
              exact kk _ _ _ hS (lv_sub hl [7, 2] rfl)
            · exact absurd c_6356 (by decide)
          · exact absurd c_6355 (by decide)
        · obtain ⟨c_6357, c_6358, c_6359, c_6360, c_6361⟩ := hw
          obtain ⟨hP1, hD1⟩ := hB
          rw [ht1] at hP1
          obtain ⟨hP, hD⟩ := va_join (wr := [(o1, .inl (g 1, 1, .inr (.inl (fun _ => 0))))]) (w1 := [((a 200), .inr (21, [.int 1, .ref (a 201), .ref (a 202), .ref (a 203), .ref (a 204), .ref (a 205), .ref (a 206), .int 0, .int 0, .int 0, .int 0, .ref (a 208), .ref (a 209), .ref (a 210), .ref (a 211), .ref (a 212), .int 4, .int 12, .int (-1), .int 0, .ref (g 200), .ref (a 213), .int 0, .int 97, .ref (a 214), .ref (a 215), .ref (a 207), .null, .int 0]))]) hP hD [0] [1] rfl rfl (by decide) (by decide) hk1 hFc hP1 hD1
          have hP : va_P D vwCl [(o1, .inl (g 1, 1, .inr (.inl (fun _ => 0)))), ((a 200), .inr (21, [.int 1, .ref (a 201), .ref (a 202), .ref (a 203), .ref (a 204), .ref (a 205), .ref (a 206), .int 0, .int 0, .int 0, .int 0, .ref (a 208), .ref (a 209), .ref (a 210), .ref (a 211), .ref (a 212), .int 4, .int 12, .int (-1), .int 0, .ref (g 200), .ref (a 213), .int 0, .int 97, .ref (a 214), .ref (a 215), .ref (a 207), .null, .int 0]))] H := hP
          have hD : va_D (va_A [] s.heap.size) [(o1, .inl (g 1, 1, .inr (.inl (fun _ => 0)))), ((a 200), .inr (21, [.int 1, .ref (a 201), .ref (a 202), .ref (a 203), .ref (a 204), .ref (a 205), .ref (a 206), .int 0, .int 0, .int 0, .int 0, .ref (a 208), .ref (a 209), .ref (a 210), .ref (a 211), .ref (a 212), .int 4, .int 12, .int (-1), .int 0, .ref (g 200), .ref (a 213), .int 0, .int 97, .ref (a 214), .ref (a 215), .ref (a 207), .null, .int 0]))] := hD
          refine lv_istore (lv' := [(7, .int 0), (6, .int 1), (0, .ref b), (1, .ref (a 0)), (2, .ref (a 200)), (3, .ref o1), (4, .ref o2), (5, .int 0)]) hx hb dL_law_3285 hl (by decide) rfl (fun ls hl => ?_)
          refine lv_aload_n hx hb dL_law_3287 rfl (lv_at hl 4 rfl) ?_
          have hPc : va_P D vwCl [((a 200), .inr (21, [.int 1, .ref (a 201), .ref (a 202), .ref (a 203), .ref (a 204), .ref (a 205), .ref (a 206), .int 0, .int 0, .int 0, .int 0, .ref (a 208), .ref (a 209), .ref (a 210), .ref (a 211), .ref (a 212), .int 4, .int 12, .int (-1), .int 0, .ref (g 200), .ref (a 213), .int 0, .int 97, .ref (a 214), .ref (a 215), .ref (a 207), .null, .int 0]))] _ := hP.sub (ws' := [((a 200), .inr (21, [.int 1, .ref (a 201), .ref (a 202), .ref (a 203), .ref (a 204), .ref (a 205), .ref (a 206), .int 0, .int 0, .int 0, .int 0, .ref (a 208), .ref (a 209), .ref (a 210), .ref (a 211), .ref (a 212), .int 4, .int 12, .int (-1), .int 0, .ref (g 200), .ref (a 213), .int 0, .int 97, .ref (a 214), .ref (a 215), .ref (a 207), .null, .int 0]))]) [1] rfl
          have hDc : va_D (fun q => z0 ≤ q) [((a 200), .inr (21, [.int 1, .ref (a 201), .ref (a 202), .ref (a 203), .ref (a 204), .ref (a 205), .ref (a 206), .int 0, .int 0, .int 0, .int 0, .ref (a 208), .ref (a 209), .ref (a 210), .ref (a 211), .ref (a 212), .int 4, .int 12, .int (-1), .int 0, .ref (g 200), .ref (a 213), .int 0, .int 97, .ref (a 214), .ref (a 215), .ref (a 207), .null, .int 0]))] := (hD.to hAz).pick (ws' := [((a 200), .inr (21, [.int 1, .ref (a 201), .ref (a 202), .ref (a 203), .ref (a 204), .ref (a 205), .ref (a 206), .int 0, .int 0, .int 0, .int 0, .ref (a 208), .ref (a 209), .ref (a 210), .ref (a 211), .ref (a 212), .int 4, .int 12, .int (-1), .int 0, .ref (g 200), .ref (a 213), .int 0, .int 97, .ref (a 214), .ref (a 215), .ref (a 207), .null, .int 0]))]) [1] (by decide) rfl
          have hFc := va_free (wc := [((a 200), .inr (21, [.int 1, .ref (a 201), .ref (a 202), .ref (a 203), .ref (a 204), .ref (a 205), .ref (a 206), .int 0, .int 0, .int 0, .int 0, .ref (a 208), .ref (a 209), .ref (a 210), .ref (a 211), .ref (a 212), .int 4, .int 12, .int (-1), .int 0, .ref (g 200), .ref (a 213), .int 0, .int 97, .ref (a 214), .ref (a 215), .ref (a 207), .null, .int 0]))]) hD hS hA [1] rfl
          refine va_calli (va_runV (As := []) (rest := []) ⟨hx, hb, hml, hown, ht⟩ (k_X15_thrown_v2 l D g z0 _ a) (cwV 0 ht (gV w_772 w_774 w_775 w_334 w_773) rfl rfl rfl (by decide +kernel) (le2 rfl rfl)) ⟨PP.blind, va_recv hK.1 hP (ci := 21) (q0 := 1) rfl rfl, PP.mk' hK hZ hz hAz hS hPc hDc⟩ rfl rfl hl.1 rfl (lv_room (Nat.le_of_ble_eq_true rfl)) dL_law_3288 (le2 rfl rfl)) hS (fun q _ h => hFc q h) hFc (fun r u t H locs ht1 hvm hw hB hz1 hk1 hS => ?_)
          obtain ⟨rfl, hw⟩ := hw
          obtain ⟨hP1, hD1⟩ := hB
          rw [ht1] at hP1
          obtain ⟨hP, hD⟩ := va_join (wr := [(o1, .inl (g 1, 1, .inr (.inl (fun _ => 0))))]) (w1 := [((a 200), .inr (21, [.int 1, .ref (a 201), .ref (a 202), .ref (a 203), .ref (a 204), .ref (a 205), .ref (a 206), .int 0, .int 0, .int 0, .int 0, .ref (a 208), .ref (a 209), .ref (a 210), .ref (a 211), .ref (a 212), .int 4, .int 12, .int (-1), .int 0, .ref (g 200), .ref (a 213), .int 0, .int 97, .ref (a 214), .ref (a 215), .ref (a 207), .null, .int 0]))]) hP hD [1] [0] rfl rfl (by decide) (by decide) hk1 hFc hP1 hD1
          have hP : va_P D vwCl [(o1, .inl (g 1, 1, .inr (.inl (fun _ => 0)))), ((a 200), .inr (21, [.int 1, .ref (a 201), .ref (a 202), .ref (a 203), .ref (a 204), .ref (a 205), .ref (a 206), .int 0, .int 0, .int 0, .int 0, .ref (a 208), .ref (a 209), .ref (a 210), .ref (a 211), .ref (a 212), .int 4, .int 12, .int (-1), .int 0, .ref (g 200), .ref (a 213), .int 0, .int 97, .ref (a 214), .ref (a 215), .ref (a 207), .null, .int 0]))] H := hP
          have hD : va_D (va_A [] s.heap.size) [(o1, .inl (g 1, 1, .inr (.inl (fun _ => 0)))), ((a 200), .inr (21, [.int 1, .ref (a 201), .ref (a 202), .ref (a 203), .ref (a 204), .ref (a 205), .ref (a 206), .int 0, .int 0, .int 0, .int 0, .ref (a 208), .ref (a 209), .ref (a 210), .ref (a 211), .ref (a 212), .int 4, .int 12, .int (-1), .int 0, .ref (g 200), .ref (a 213), .int 0, .int 97, .ref (a 214), .ref (a 215), .ref (a 207), .null, .int 0]))] := hD
          refine lv_iload hx hb dL_law_3291 (lv_at hl 1 rfl) ?_
          refine lv_icmp_eq (tgt := 3298) hx hb dL_law_3293 (by decide) (fun c_6362 => ?_) (fun c_6362 => ?_)
          · refine lv_iload hx hb dL_law_3298 (lv_at hl 1 rfl) ?_
            refine lv_if_ne (tgt := 3322) hx hb dL_law_3300 (by decide) (fun c_6363 => ?_) (fun c_6363 => ?_)
            · refine lv_goto (tgt := 4264) hx hb dL_law_3322 (by decide) ?_
              refine W.widen (k := 200 + 300) (n := 8000 + 2000) (Nat.le_of_ble_eq_true rfl) (Nat.le_of_ble_eq_true rfl) ?_
              exact kk _ _ _ hS (lv_sub hl [7, 2] rfl)
            · exact absurd c_6363 (by decide)
          · exact absurd c_6362 (by decide)
        · obtain ⟨c_6364, c_6365, c_6366, c_6367, c_6368⟩ := hw
          obtain ⟨hP1, hD1⟩ := hB
          rw [ht1] at hP1
          obtain ⟨hP, hD⟩ := va_join (wr := [(o1, .inl (g 1, 1, .inr (.inl (fun _ => 0))))]) (w1 := [((a 200), .inr (21, [.int 1, .ref (a 201), .ref (a 202), .ref (a 203), .ref (a 204), .ref (a 205), .ref (a 206), .int 0, .int 0, .int 0, .int 0, .ref (a 208), .ref (a 209), .ref (a 210), .ref (a 211), .ref (a 212), .int 4, .int 12, .int (-1), .int 0, .ref (g 200), .ref (a 213), .int 0, .int 97, .ref (a 214), .ref (a 215), .ref (a 207), .null, .int 0]))]) hP hD [0] [1] rfl rfl (by decide) (by decide) hk1 hFc hP1 hD1
          have hP : va_P D vwCl [(o1, .inl (g 1, 1, .inr (.inl (fun _ => 0)))), ((a 200), .inr (21, [.int 1, .ref (a 201), .ref (a 202), .ref (a 203), .ref (a 204), .ref (a 205), .ref (a 206), .int 0, .int 0, .int 0, .int 0, .ref (a 208), .ref (a 209), .ref (a 210), .ref (a 211), .ref (a 212), .int 4, .int 12, .int (-1), .int 0, .ref (g 200), .ref (a 213), .int 0, .int 97, .ref (a 214), .ref (a 215), .ref (a 207), .null, .int 0]))] H := hP
          have hD : va_D (va_A [] s.heap.size) [(o1, .inl (g 1, 1, .inr (.inl (fun _ => 0)))), ((a 200), .inr (21, [.int 1, .ref (a 201), .ref (a 202), .ref (a 203), .ref (a 204), .ref (a 205), .ref (a 206), .int 0, .int 0, .int 0, .int 0, .ref (a 208), .ref (a 209), .ref (a 210), .ref (a 211), .ref (a 212), .int 4, .int 12, .int (-1), .int 0, .ref (g 200), .ref (a 213), .int 0, .int 97, .ref (a 214), .ref (a 215), .ref (a 207), .null, .int 0]))] := hD
          refine lv_istore (lv' := [(7, .int 0), (6, .int 1), (0, .ref b), (1, .ref (a 0)), (2, .ref (a 200)), (3, .ref o1), (4, .ref o2), (5, .int 0)]) hx hb dL_law_3285 hl (by decide) rfl (fun ls hl => ?_)
          refine lv_aload_n hx hb dL_law_3287 rfl (lv_at hl 4 rfl) ?_
          have hPc : va_P D vwCl [((a 200), .inr (21, [.int 1, .ref (a 201), .ref (a 202), .ref (a 203), .ref (a 204), .ref (a 205), .ref (a 206), .int 0, .int 0, .int 0, .int 0, .ref (a 208), .ref (a 209), .ref (a 210), .ref (a 211), .ref (a 212), .int 4, .int 12, .int (-1), .int 0, .ref (g 200), .ref (a 213), .int 0, .int 97, .ref (a 214), .ref (a 215), .ref (a 207), .null, .int 0]))] _ := hP.sub (ws' := [((a 200), .inr (21, [.int 1, .ref (a 201), .ref (a 202), .ref (a 203), .ref (a 204), .ref (a 205), .ref (a 206), .int 0, .int 0, .int 0, .int 0, .ref (a 208), .ref (a 209), .ref (a 210), .ref (a 211), .ref (a 212), .int 4, .int 12, .int (-1), .int 0, .ref (g 200), .ref (a 213), .int 0, .int 97, .ref (a 214), .ref (a 215), .ref (a 207), .null, .int 0]))]) [1] rfl
          have hDc : va_D (fun q => z0 ≤ q) [((a 200), .inr (21, [.int 1, .ref (a 201), .ref (a 202), .ref (a 203), .ref (a 204), .ref (a 205), .ref (a 206), .int 0, .int 0, .int 0, .int 0, .ref (a 208), .ref (a 209), .ref (a 210), .ref (a 211), .ref (a 212), .int 4, .int 12, .int (-1), .int 0, .ref (g 200), .ref (a 213), .int 0, .int 97, .ref (a 214), .ref (a 215), .ref (a 207), .null, .int 0]))] := (hD.to hAz).pick (ws' := [((a 200), .inr (21, [.int 1, .ref (a 201), .ref (a 202), .ref (a 203), .ref (a 204), .ref (a 205), .ref (a 206), .int 0, .int 0, .int 0, .int 0, .ref (a 208), .ref (a 209), .ref (a 210), .ref (a 211), .ref (a 212), .int 4, .int 12, .int (-1), .int 0, .ref (g 200), .ref (a 213), .int 0, .int 97, .ref (a 214), .ref (a 215), .ref (a 207), .null, .int 0]))]) [1] (by decide) rfl
          have hFc := va_free (wc := [((a 200), .inr (21, [.int 1, .ref (a 201), .ref (a 202), .ref (a 203), .ref (a 204), .ref (a 205), .ref (a 206), .int 0, .int 0, .int 0, .int 0, .ref (a 208), .ref (a 209), .ref (a 210), .ref (a 211), .ref (a 212), .int 4, .int 12, .int (-1), .int 0, .ref (g 200), .ref (a 213), .int 0, .int 97, .ref (a 214), .ref (a 215), .ref (a 207), .null, .int 0]))]) hD hS hA [1] rfl
          refine va_calli (va_runV (As := []) (rest := []) ⟨hx, hb, hml, hown, ht⟩ (k_X15_thrown_v2 l D g z0 _ a) (cwV 0 ht (gV w_772 w_774 w_775 w_334 w_773) rfl rfl rfl (by decide +kernel) (le2 rfl rfl)) ⟨PP.blind, va_recv hK.1 hP (ci := 21) (q0 := 1) rfl rfl, PP.mk' hK hZ hz hAz hS hPc hDc⟩ rfl rfl hl.1 rfl (lv_room (Nat.le_of_ble_eq_true rfl)) dL_law_3288 (le2 rfl rfl)) hS (fun q _ h => hFc q h) hFc (fun r u t H locs ht1 hvm hw hB hz1 hk1 hS => ?_)
          obtain ⟨rfl, hw⟩ := hw
          obtain ⟨hP1, hD1⟩ := hB
          rw [ht1] at hP1
          obtain ⟨hP, hD⟩ := va_join (wr := [(o1, .inl (g 1, 1, .inr (.inl (fun _ => 0))))]) (w1 := [((a 200), .inr (21, [.int 1, .ref (a 201), .ref (a 202), .ref (a 203), .ref (a 204), .ref (a 205), .ref (a 206), .int 0, .int 0, .int 0, .int 0, .ref (a 208), .ref (a 209), .ref (a 210), .ref (a 211), .ref (a 212), .int 4, .int 12, .int (-1), .int 0, .ref (g 200), .ref (a 213), .int 0, .int 97, .ref (a 214), .ref (a 215), .ref (a 207), .null, .int 0]))]) hP hD [1] [0] rfl rfl (by decide) (by decide) hk1 hFc hP1 hD1
          have hP : va_P D vwCl [(o1, .inl (g 1, 1, .inr (.inl (fun _ => 0)))), ((a 200), .inr (21, [.int 1, .ref (a 201), .ref (a 202), .ref (a 203), .ref (a 204), .ref (a 205), .ref (a 206), .int 0, .int 0, .int 0, .int 0, .ref (a 208), .ref (a 209), .ref (a 210), .ref (a 211), .ref (a 212), .int 4, .int 12, .int (-1), .int 0, .ref (g 200), .ref (a 213), .int 0, .int 97, .ref (a 214), .ref (a 215), .ref (a 207), .null, .int 0]))] H := hP
          have hD : va_D (va_A [] s.heap.size) [(o1, .inl (g 1, 1, .inr (.inl (fun _ => 0)))), ((a 200), .inr (21, [.int 1, .ref (a 201), .ref (a 202), .ref (a 203), .ref (a 204), .ref (a 205), .ref (a 206), .int 0, .int 0, .int 0, .int 0, .ref (a 208), .ref (a 209), .ref (a 210), .ref (a 211), .ref (a 212), .int 4, .int 12, .int (-1), .int 0, .ref (g 200), .ref (a 213), .int 0, .int 97, .ref (a 214), .ref (a 215), .ref (a 207), .null, .int 0]))] := hD
          refine lv_iload hx hb dL_law_3291 (lv_at hl 1 rfl) ?_
          refine lv_icmp_eq (tgt := 3298) hx hb dL_law_3293 (by decide) (fun c_6369 => ?_) (fun c_6369 => ?_)
          · refine lv_iload hx hb dL_law_3298 (lv_at hl 1 rfl) ?_
            refine lv_if_ne (tgt := 3322) hx hb dL_law_3300 (by decide) (fun c_6370 => ?_) (fun c_6370 => ?_)
            · refine lv_goto (tgt := 4264) hx hb dL_law_3322 (by decide) ?_
              refine W.widen (k := 200 + 300) (n := 8000 + 2000) (Nat.le_of_ble_eq_true rfl) (Nat.le_of_ble_eq_true rfl) ?_
              exact kk _ _ _ hS (lv_sub hl [7, 2] rfl)
            · exact absurd c_6370 (by decide)
          · exact absurd c_6369 (by decide)
        · obtain ⟨c_6371, c_6372, c_6373, c_6374⟩ := hw
          exact absurd c_6371 c_6349
        · obtain ⟨c_6375, c_6376, c_6377, c_6378, c_6379⟩ := hw
          exact absurd c_6375 c_6349
        · obtain ⟨c_6380, c_6381, c_6382, c_6383, c_6384, c_6385⟩ := hw
          exact absurd c_6380 c_6349
        · obtain ⟨c_6386, c_6387, c_6388, c_6389, c_6390, c_6391, c_6392⟩ := hw
          exact absurd c_6386 c_6349
        · obtain ⟨c_6393, c_6394, c_6395, c_6396, c_6397, c_6398, c_6399, c_6400⟩ := hw
          exact absurd c_6393 c_6349
        · obtain ⟨c_6401, c_6402, c_6403⟩ := hw
          exact absurd c_6401 c_6348
        · obtain ⟨c_6404, c_6405, c_6406, c_6407⟩ := hw
          exact absurd c_6404 c_6348
        · obtain ⟨c_6408, c_6409, c_6410, c_6411, c_6412⟩ := hw
          exact absurd c_6408 c_6348
        · obtain ⟨c_6413, c_6414, c_6415, c_6416, c_6417, c_6418⟩ := hw
          exact absurd c_6413 c_6348
        · obtain ⟨c_6419, c_6420, c_6421, c_6422, c_6423, c_6424, c_6425⟩ := hw
          exact absurd c_6419 c_6348
        · obtain ⟨c_6426, c_6427, c_6428, c_6429, c_6430, c_6431, c_6432, c_6433, c_6434⟩ := hw
          exact absurd c_6426 c_6348
        · obtain ⟨c_6435, c_6436, c_6437, c_6438, c_6439, c_6440, c_6441, c_6442, c_6443, c_6444⟩ := hw
          exact absurd c_6435 c_6348
        · obtain ⟨c_6445, c_6446⟩ := hw
          exact absurd c_6445 c_6347
        · obtain ⟨c_6447, c_6448, c_6449⟩ := hw
          exact absurd c_6447 c_6347
        · obtain ⟨c_6450, c_6451, c_6452, c_6453⟩ := hw
          exact absurd c_6450 c_6347
        · obtain ⟨c_6454, c_6455, c_6456, c_6457, c_6458⟩ := hw
          exact absurd c_6454 c_6347
        · obtain ⟨c_6459, c_6460, c_6461, c_6462, c_6463, c_6464⟩ := hw
          exact absurd c_6459 c_6347
        · obtain ⟨c_6465, c_6466, c_6467, c_6468, c_6469, c_6470, c_6471, c_6472⟩ := hw
          exact absurd c_6465 c_6347
        · obtain ⟨c_6473, c_6474, c_6475, c_6476, c_6477, c_6478, c_6479, c_6480, c_6481⟩ := hw
          exact absurd c_6473 c_6347
        · obtain ⟨c_6482, c_6483, c_6484, c_6485, c_6486, c_6487, c_6488, c_6489, c_6490, c_6491⟩ := hw
          exact absurd c_6482 c_6347
        · obtain ⟨c_6492, c_6493, c_6494, c_6495, c_6496, c_6497, c_6498, c_6499, c_6500, c_6501, c_6502⟩ := hw
          exact absurd c_6492 c_6347
        · obtain ⟨c_6503, c_6504, c_6505, c_6506, c_6507⟩ := hw
          exact absurd c_6503 c_6346
        · obtain ⟨c_6508, c_6509, c_6510, c_6511, c_6512, c_6513⟩ := hw
          exact absurd c_6508 c_6346
        · obtain ⟨c_6514, c_6515, c_6516, c_6517, c_6518, c_6519, c_6520⟩ := hw
          exact absurd c_6514 c_6346
        · obtain ⟨c_6521, c_6522, c_6523, c_6524, c_6525, c_6526, c_6527, c_6528⟩ := hw
          exact absurd c_6521 c_6346
        · obtain ⟨c_6529, c_6530, c_6531, c_6532, c_6533⟩ := hw
          exact absurd c_6529 c_6345
        · obtain ⟨c_6534, c_6535, c_6536, c_6537, c_6538, c_6539⟩ := hw
          exact absurd c_6534 c_6345
        · obtain ⟨c_6540, c_6541, c_6542, c_6543, c_6544, c_6545, c_6546⟩ := hw
          exact absurd c_6540 c_6345
        · obtain ⟨c_6547, c_6548, c_6549, c_6550, c_6551, c_6552, c_6553, c_6554⟩ := hw
          exact absurd c_6547 c_6345
      · obtain ⟨rfl, rfl, hw⟩ := hw
        rcases hw with hw | hw | hw | hw | hw
        · obtain ⟨c_6555, c_6556, c_6557, c_6558, c_6559, c_6560, c_6561, c_6562⟩ := hw
          exact absurd c_6555 c_6349
        · obtain ⟨c_6563, c_6564, c_6565, c_6566, c_6567, c_6568, c_6569, c_6570, c_6571, c_6572⟩ := hw
          exact absurd c_6563 c_6348
        · obtain ⟨c_6573, c_6574, c_6575, c_6576, c_6577, c_6578, c_6579, c_6580, c_6581, c_6582, c_6583⟩ := hw
          exact absurd c_6573 c_6347
        · obtain ⟨c_6584, c_6585, c_6586, c_6587, c_6588, c_6589, c_6590, c_6591⟩ := hw
          exact absurd c_6584 c_6346
        · obtain ⟨c_6592, c_6593, c_6594, c_6595, c_6596, c_6597, c_6598, c_6599⟩ := hw
          exact absurd c_6592 c_6345
  · obtain ⟨rfl, hw⟩ := hw
    rcases hw with hw | hw | hw | hw | hw | hw | hw | hw | hw | hw | hw
    · obtain ⟨c_6600, c_6601, c_6602, c_6603, c_6604, c_6605, c_6606⟩ := hw
      obtain ⟨hP1, hD1⟩ := hB
      rw [ht1] at hP1
      obtain ⟨hP, hD⟩ := va_join (wr := [((a 200), f_m a g)]) (w1 := [(o1, .inl (g 1, 1, .inr (.inl (fun _ => 0))))]) hP hD [3, 0, 1] [2] rfl rfl (by decide) (by decide) hk1 hFc hP1 hD1
      have hP : va_P D vwCl [((a 200), f_m a g), (o1, .inl (g 1, 1, .inr (.inl (fun _ => 0))))] H := hP
      have hD : va_D (va_A [] s.heap.size) [((a 200), f_m a g), (o1, .inl (g 1, 1, .inr (.inl (fun _ => 0))))] := hD
      refine lv_istore (lv' := [(6, .int 2), (0, .ref b), (1, .ref (a 0)), (2, .ref (a 200)), (3, .ref o1), (4, .ref o2), (5, .int 0)]) hx hb dL_law_3248 hl (by decide) rfl (fun ls hl => ?_)
      refine lv_aload_n hx hb dL_law_3250 rfl (lv_at hl 3 rfl) ?_
      refine lv_aload_n hx hb dL_law_3251 rfl (lv_at hl 1 rfl) ?_
      refine lv_iload hx hb dL_law_3252 (lv_at hl 6 rfl) ?_
      refine lv_iconst (v := 1) hx hb dL_law_3254 (by decide) ?_
      refine lv_iadd hx hb dL_law_3255 ?_
      refine r_topi (v := 1) (by decide) ?_
      refine va_sld hx hb hX hbl hbA hS (by unfold vp_in; decide) dL_law_3256 ?_
      refine r_topi (v := xs 1) (congrArg xs (by decide)) ?_
      refine lv_i2c (v := ((xs 1).toUInt32 % 65536).toInt32) hx hb dL_law_3257 rfl ?_
      refine lv_aload_n hx hb dL_law_3258 rfl (lv_at hl 1 rfl) ?_
      refine lv_iload hx hb dL_law_3259 (lv_at hl 6 rfl) ?_
      refine lv_iconst (v := 2) hx hb dL_law_3261 (by decide) ?_
      refine lv_iadd hx hb dL_law_3262 ?_
      refine r_topi (v := 2) (by decide) ?_
      refine va_sld hx hb hX hbl hbA hS (by unfold vp_in; decide) dL_law_3263 ?_
      refine r_topi (v := xs 2) (congrArg xs (by decide)) ?_
      refine lv_aload_n hx hb dL_law_3264 rfl (lv_at hl 1 rfl) ?_
      refine lv_iload hx hb dL_law_3265 (lv_at hl 6 rfl) ?_
      refine lv_iconst (v := 3) hx hb dL_law_3267 (by decide) ?_
      refine lv_iadd hx hb dL_law_3268 ?_
      refine r_topi (v := 3) (by decide) ?_
      refine va_sld hx hb hX hbl hbA hS (by unfold vp_in; decide) dL_law_3269 ?_
      refine r_topi (v := xs 3) (congrArg xs (by decide)) ?_
      refine lv_aload_n hx hb dL_law_3270 rfl (lv_at hl 1 rfl) ?_
      refine lv_iload hx hb dL_law_3271 (lv_at hl 6 rfl) ?_
      refine lv_iconst (v := 4) hx hb dL_law_3273 (by decide) ?_
      refine lv_iadd hx hb dL_law_3274 ?_
      refine r_topi (v := 4) (by decide) ?_
      refine va_sld hx hb hX hbl hbA hS (by unfold vp_in; decide) dL_law_3275 ?_
      refine r_topi (v := xs 4) (congrArg xs (by decide)) ?_
      refine lv_aload_n hx hb dL_law_3276 rfl (lv_at hl 1 rfl) ?_
      refine lv_iload hx hb dL_law_3277 (lv_at hl 6 rfl) ?_
      refine lv_iconst (v := 5) hx hb dL_law_3279 (by decide) ?_
      refine lv_iadd hx hb dL_law_3280 ?_
      refine r_topi (v := 5) (by decide) ?_
      refine va_sld hx hb hX hbl hbA hS (by unfold vp_in; decide) dL_law_3281 ?_
      refine r_topi (v := xs 5) (congrArg xs (by decide)) ?_
      have hPc : va_P D vwCl [((a 200), f_m a g)] _ := hP.sub (ws' := [((a 200), f_m a g)]) [0] rfl
      have hDc : va_D (fun q => z0 ≤ q) [((a 200), f_m a g)] := (hD.to hAz).pick (ws' := [((a 200), f_m a g)]) [0] (by decide) rfl
      have hFc := va_free (wc := [((a 200), f_m a g)]) hD hS hA [0] rfl
      refine va_calli (va_runV (As := [.int (((xs 1).toUInt32 % 65536).toInt32), .int (xs 2), .int (xs 3), .int (xs 4), .int (xs 5)]) (rest := []) ⟨hx, hb, hml, hown, ht⟩ (k_X15_marchFinds l D g z0 _ a (((xs 1).toUInt32 % 65536).toInt32) (xs 2) (xs 3) (xs 4) (xs 5) (isC_i2c _)) (cwV 5 ht (gV w_1231 w_1233 w_1234 w_334 w_1232) rfl rfl rfl (by decide +kernel) (le2 rfl rfl)) ⟨PP.blind, va_recv hK.1 hP (ci := 21) (q0 := 0) rfl rfl, PP.mk' hK hZ hz hAz hS hPc hDc⟩ rfl rfl hl.1 rfl (lv_room (Nat.le_of_ble_eq_true rfl)) dL_law_3282 (le2 rfl rfl)) hS (fun q _ h => hFc q h) hFc (fun r u t H locs ht1 hvm hw hB hz1 hk1 hS => ?_)
      rcases hw with hw | hw
      · obtain ⟨rfl, rfl, hw⟩ := hw
        rcases hw with hw | hw | hw | hw | hw | hw | hw | hw | hw | hw | hw | hw | hw | hw | hw | hw | hw | hw | hw | hw | hw | hw | hw | hw | hw | hw | hw | hw | hw | hw | hw | hw
        · obtain ⟨c_6607, c_6608, c_6609, c_6610, c_6611⟩ := hw
          exact absurd c_6600 c_6607
        · obtain ⟨c_6612, c_6613, c_6614, c_6615, c_6616⟩ := hw
          exact absurd c_6600 c_6612
        · obtain ⟨c_6617, c_6618, c_6619, c_6620, c_6621⟩ := hw
          exact absurd c_6600 c_6617
        · obtain ⟨c_6622, c_6623, c_6624, c_6625⟩ := hw
          exact absurd (c_6600.symm.trans c_6622) (by decide)
        · obtain ⟨c_6626, c_6627, c_6628, c_6629, c_6630⟩ := hw
          exact absurd (c_6600.symm.trans c_6626) (by decide)
        · obtain ⟨c_6631, c_6632, c_6633, c_6634, c_6635, c_6636⟩ := hw
          exact absurd (c_6600.symm.trans c_6631) (by decide)
        · obtain ⟨c_6637, c_6638, c_6639, c_6640, c_6641, c_6642, c_6643⟩ := hw
          exact absurd (c_6600.symm.trans c_6637) (by decide)
        · obtain ⟨c_6644, c_6645, c_6646, c_6647, c_6648, c_6649, c_6650, c_6651⟩ := hw
          exact absurd (c_6600.symm.trans c_6644) (by decide)
        · obtain ⟨c_6652, c_6653, c_6654⟩ := hw
          exact absurd (c_6600.symm.trans c_6652) (by decide)
        · obtain ⟨c_6655, c_6656, c_6657, c_6658⟩ := hw
          exact absurd (c_6600.symm.trans c_6655) (by decide)
        · obtain ⟨c_6659, c_6660, c_6661, c_6662, c_6663⟩ := hw
          exact absurd (c_6600.symm.trans c_6659) (by decide)
        · obtain ⟨c_6664, c_6665, c_6666, c_6667, c_6668, c_6669⟩ := hw
          exact absurd (c_6600.symm.trans c_6664) (by decide)
        · obtain ⟨c_6670, c_6671, c_6672, c_6673, c_6674, c_6675, c_6676⟩ := hw
          exact absurd (c_6600.symm.trans c_6670) (by decide)
        · obtain ⟨c_6677, c_6678, c_6679, c_6680, c_6681, c_6682, c_6683, c_6684, c_6685⟩ := hw
          exact absurd (c_6600.symm.trans c_6677) (by decide)
        · obtain ⟨c_6686, c_6687, c_6688, c_6689, c_6690, c_6691, c_6692, c_6693, c_6694, c_6695⟩ := hw
          exact absurd (c_6600.symm.trans c_6686) (by decide)
        · obtain ⟨c_6696, c_6697⟩ := hw
          exact absurd (c_6600.symm.trans c_6696) (by decide)
        · obtain ⟨c_6698, c_6699, c_6700⟩ := hw
          exact absurd (c_6600.symm.trans c_6698) (by decide)
        · obtain ⟨c_6701, c_6702, c_6703, c_6704⟩ := hw
          exact absurd (c_6600.symm.trans c_6701) (by decide)
        · obtain ⟨c_6705, c_6706, c_6707, c_6708, c_6709⟩ := hw
          exact absurd (c_6600.symm.trans c_6705) (by decide)
        · obtain ⟨c_6710, c_6711, c_6712, c_6713, c_6714, c_6715⟩ := hw
          exact absurd (c_6600.symm.trans c_6710) (by decide)
        · obtain ⟨c_6716, c_6717, c_6718, c_6719, c_6720, c_6721, c_6722, c_6723⟩ := hw
          exact absurd (c_6600.symm.trans c_6716) (by decide)
        · obtain ⟨c_6724, c_6725, c_6726, c_6727, c_6728, c_6729, c_6730, c_6731, c_6732⟩ := hw
          exact absurd (c_6600.symm.trans c_6724) (by decide)
        · obtain ⟨c_6733, c_6734, c_6735, c_6736, c_6737, c_6738, c_6739, c_6740, c_6741, c_6742⟩ := hw
          exact absurd (c_6600.symm.trans c_6733) (by decide)
        · obtain ⟨c_6743, c_6744, c_6745, c_6746, c_6747, c_6748, c_6749, c_6750, c_6751, c_6752, c_6753⟩ := hw
          exact absurd (c_6600.symm.trans c_6743) (by decide)
        · obtain ⟨c_6754, c_6755, c_6756, c_6757, c_6758⟩ := hw
          exact absurd (c_6600.symm.trans c_6754) (by decide)
        · obtain ⟨c_6759, c_6760, c_6761, c_6762, c_6763, c_6764⟩ := hw
          exact absurd (c_6600.symm.trans c_6759) (by decide)
        · obtain ⟨c_6765, c_6766, c_6767, c_6768, c_6769, c_6770, c_6771⟩ := hw
          exact absurd (c_6600.symm.trans c_6765) (by decide)
        · obtain ⟨c_6772, c_6773, c_6774, c_6775, c_6776, c_6777, c_6778, c_6779⟩ := hw
          exact absurd (c_6600.symm.trans c_6772) (by decide)
        · obtain ⟨c_6780, c_6781, c_6782, c_6783, c_6784⟩ := hw
          exact absurd c_6784 c_6601
        · obtain ⟨c_6785, c_6786, c_6787, c_6788, c_6789, c_6790⟩ := hw
          exact absurd (Int.le_trans (lo_lt c_6790) (up_lt c_6602)) (by decide)
        · obtain ⟨c_6791, c_6792, c_6793, c_6794, c_6795, c_6796, c_6797⟩ := hw
          exact absurd (c_6606 ▸ c_6797) (by decide)
        · obtain ⟨c_6798, c_6799, c_6800, c_6801, c_6802, c_6803, c_6804, c_6805⟩ := hw
          exact absurd (c_6606 ▸ c_6805) (by decide)
      · obtain ⟨rfl, rfl, hw⟩ := hw
        rcases hw with hw | hw | hw | hw | hw
        · obtain ⟨c_6806, c_6807, c_6808, c_6809, c_6810, c_6811, c_6812, c_6813⟩ := hw
          exact absurd (c_6600.symm.trans c_6806) (by decide)
        · obtain ⟨c_6814, c_6815, c_6816, c_6817, c_6818, c_6819, c_6820, c_6821, c_6822, c_6823⟩ := hw
          exact absurd (c_6600.symm.trans c_6814) (by decide)
        · obtain ⟨c_6824, c_6825, c_6826, c_6827, c_6828, c_6829, c_6830, c_6831, c_6832, c_6833, c_6834⟩ := hw
          exact absurd (c_6600.symm.trans c_6824) (by decide)
        · obtain ⟨c_6835, c_6836, c_6837, c_6838, c_6839, c_6840, c_6841, c_6842⟩ := hw
          exact absurd (c_6600.symm.trans c_6835) (by decide)
        · obtain ⟨c_6843, c_6844, c_6845, c_6846, c_6847, c_6848, c_6849, c_6850⟩ := hw
          obtain ⟨hP1, hD1⟩ := hB
          rw [ht1] at hP1
          obtain ⟨hP, hD⟩ := va_join (wr := [(o1, .inl (g 1, 1, .inr (.inl (fun _ => 0))))]) (w1 := [((a 200), .inr (21, [.int 2, .ref (a 201), .ref (a 202), .ref (a 203), .ref (a 204), .ref (a 205), .ref (a 206), .int 0, .int 0, .int 0, .int 0, .ref (a 208), .ref (a 209), .ref (a 210), .ref (a 211), .ref (a 212), .int 4, .int 12, .int (-1), .int 0, .ref (g 200), .ref (a 213), .int 0, .int 97, .ref (a 214), .ref (a 215), .ref (a 207), .null, .int 0]))]) hP hD [0] [1] rfl rfl (by decide) (by decide) hk1 hFc hP1 hD1
          have hP : va_P D vwCl [(o1, .inl (g 1, 1, .inr (.inl (fun _ => 0)))), ((a 200), .inr (21, [.int 2, .ref (a 201), .ref (a 202), .ref (a 203), .ref (a 204), .ref (a 205), .ref (a 206), .int 0, .int 0, .int 0, .int 0, .ref (a 208), .ref (a 209), .ref (a 210), .ref (a 211), .ref (a 212), .int 4, .int 12, .int (-1), .int 0, .ref (g 200), .ref (a 213), .int 0, .int 97, .ref (a 214), .ref (a 215), .ref (a 207), .null, .int 0]))] H := hP
          have hD : va_D (va_A [] s.heap.size) [(o1, .inl (g 1, 1, .inr (.inl (fun _ => 0)))), ((a 200), .inr (21, [.int 2, .ref (a 201), .ref (a 202), .ref (a 203), .ref (a 204), .ref (a 205), .ref (a 206), .int 0, .int 0, .int 0, .int 0, .ref (a 208), .ref (a 209), .ref (a 210), .ref (a 211), .ref (a 212), .int 4, .int 12, .int (-1), .int 0, .ref (g 200), .ref (a 213), .int 0, .int 97, .ref (a 214), .ref (a 215), .ref (a 207), .null, .int 0]))] := hD
          refine lv_istore (lv' := [(7, .int 0), (6, .int 2), (0, .ref b), (1, .ref (a 0)), (2, .ref (a 200)), (3, .ref o1), (4, .ref o2), (5, .int 0)]) hx hb dL_law_3285 hl (by decide) rfl (fun ls hl => ?_)
          refine lv_aload_n hx hb dL_law_3287 rfl (lv_at hl 4 rfl) ?_
          have hPc : va_P D vwCl [((a 200), .inr (21, [.int 2, .ref (a 201), .ref (a 202), .ref (a 203), .ref (a 204), .ref (a 205), .ref (a 206), .int 0, .int 0, .int 0, .int 0, .ref (a 208), .ref (a 209), .ref (a 210), .ref (a 211), .ref (a 212), .int 4, .int 12, .int (-1), .int 0, .ref (g 200), .ref (a 213), .int 0, .int 97, .ref (a 214), .ref (a 215), .ref (a 207), .null, .int 0]))] _ := hP.sub (ws' := [((a 200), .inr (21, [.int 2, .ref (a 201), .ref (a 202), .ref (a 203), .ref (a 204), .ref (a 205), .ref (a 206), .int 0, .int 0, .int 0, .int 0, .ref (a 208), .ref (a 209), .ref (a 210), .ref (a 211), .ref (a 212), .int 4, .int 12, .int (-1), .int 0, .ref (g 200), .ref (a 213), .int 0, .int 97, .ref (a 214), .ref (a 215), .ref (a 207), .null, .int 0]))]) [1] rfl
          have hDc : va_D (fun q => z0 ≤ q) [((a 200), .inr (21, [.int 2, .ref (a 201), .ref (a 202), .ref (a 203), .ref (a 204), .ref (a 205), .ref (a 206), .int 0, .int 0, .int 0, .int 0, .ref (a 208), .ref (a 209), .ref (a 210), .ref (a 211), .ref (a 212), .int 4, .int 12, .int (-1), .int 0, .ref (g 200), .ref (a 213), .int 0, .int 97, .ref (a 214), .ref (a 215), .ref (a 207), .null, .int 0]))] := (hD.to hAz).pick (ws' := [((a 200), .inr (21, [.int 2, .ref (a 201), .ref (a 202), .ref (a 203), .ref (a 204), .ref (a 205), .ref (a 206), .int 0, .int 0, .int 0, .int 0, .ref (a 208), .ref (a 209), .ref (a 210), .ref (a 211), .ref (a 212), .int 4, .int 12, .int (-1), .int 0, .ref (g 200), .ref (a 213), .int 0, .int 97, .ref (a 214), .ref (a 215), .ref (a 207), .null, .int 0]))]) [1] (by decide) rfl
          have hFc := va_free (wc := [((a 200), .inr (21, [.int 2, .ref (a 201), .ref (a 202), .ref (a 203), .ref (a 204), .ref (a 205), .ref (a 206), .int 0, .int 0, .int 0, .int 0, .ref (a 208), .ref (a 209), .ref (a 210), .ref (a 211), .ref (a 212), .int 4, .int 12, .int (-1), .int 0, .ref (g 200), .ref (a 213), .int 0, .int 97, .ref (a 214), .ref (a 215), .ref (a 207), .null, .int 0]))]) hD hS hA [1] rfl
          refine va_calli (va_runV (As := []) (rest := []) ⟨hx, hb, hml, hown, ht⟩ (k_X15_thrown_v1 l D g z0 _ a) (cwV 0 ht (gV w_772 w_774 w_775 w_334 w_773) rfl rfl rfl (by decide +kernel) (le2 rfl rfl)) ⟨PP.blind, va_recv hK.1 hP (ci := 21) (q0 := 1) rfl rfl, PP.mk' hK hZ hz hAz hS hPc hDc⟩ rfl rfl hl.1 rfl (lv_room (Nat.le_of_ble_eq_true rfl)) dL_law_3288 (le2 rfl rfl)) hS (fun q _ h => hFc q h) hFc (fun r u t H locs ht1 hvm hw hB hz1 hk1 hS => ?_)
          obtain ⟨rfl, hw⟩ := hw
          obtain ⟨hP1, hD1⟩ := hB
          rw [ht1] at hP1
          obtain ⟨hP, hD⟩ := va_join (wr := [(o1, .inl (g 1, 1, .inr (.inl (fun _ => 0))))]) (w1 := [((a 200), .inr (21, [.int 2, .ref (a 201), .ref (a 202), .ref (a 203), .ref (a 204), .ref (a 205), .ref (a 206), .int 0, .int 0, .int 0, .int 0, .ref (a 208), .ref (a 209), .ref (a 210), .ref (a 211), .ref (a 212), .int 4, .int 12, .int (-1), .int 0, .ref (g 200), .ref (a 213), .int 0, .int 97, .ref (a 214), .ref (a 215), .ref (a 207), .null, .int 0]))]) hP hD [1] [0] rfl rfl (by decide) (by decide) hk1 hFc hP1 hD1
          have hP : va_P D vwCl [(o1, .inl (g 1, 1, .inr (.inl (fun _ => 0)))), ((a 200), .inr (21, [.int 2, .ref (a 201), .ref (a 202), .ref (a 203), .ref (a 204), .ref (a 205), .ref (a 206), .int 0, .int 0, .int 0, .int 0, .ref (a 208), .ref (a 209), .ref (a 210), .ref (a 211), .ref (a 212), .int 4, .int 12, .int (-1), .int 0, .ref (g 200), .ref (a 213), .int 0, .int 97, .ref (a 214), .ref (a 215), .ref (a 207), .null, .int 0]))] H := hP
          have hD : va_D (va_A [] s.heap.size) [(o1, .inl (g 1, 1, .inr (.inl (fun _ => 0)))), ((a 200), .inr (21, [.int 2, .ref (a 201), .ref (a 202), .ref (a 203), .ref (a 204), .ref (a 205), .ref (a 206), .int 0, .int 0, .int 0, .int 0, .ref (a 208), .ref (a 209), .ref (a 210), .ref (a 211), .ref (a 212), .int 4, .int 12, .int (-1), .int 0, .ref (g 200), .ref (a 213), .int 0, .int 97, .ref (a 214), .ref (a 215), .ref (a 207), .null, .int 0]))] := hD
          refine lv_iload hx hb dL_law_3291 (lv_at hl 1 rfl) ?_
          refine lv_icmp_eq (tgt := 3298) hx hb dL_law_3293 (by decide) (fun c_6851 => ?_) (fun c_6851 => ?_)
          · refine lv_iload hx hb dL_law_3298 (lv_at hl 1 rfl) ?_
            refine lv_if_ne (tgt := 3322) hx hb dL_law_3300 (by decide) (fun c_6852 => ?_) (fun c_6852 => ?_)
            · refine lv_goto (tgt := 4264) hx hb dL_law_3322 (by decide) ?_
              refine W.widen (k := 200 + 300) (n := 8000 + 2000) (Nat.le_of_ble_eq_true rfl) (Nat.le_of_ble_eq_true rfl) ?_
              exact kk _ _ _ hS (lv_sub hl [7, 2] rfl)
            · exact absurd c_6852 (by decide)
          · exact absurd c_6851 (by decide)
    · obtain ⟨c_6853, c_6854, c_6855, c_6856, c_6857, c_6858, c_6859, c_6860⟩ := hw
      obtain ⟨hP1, hD1⟩ := hB
      rw [ht1] at hP1
      obtain ⟨hP, hD⟩ := va_join (wr := [((a 200), f_m a g)]) (w1 := [(o1, .inl (g 1, 1, .inr (.inl (fun _ => 0))))]) hP hD [3, 0, 1] [2] rfl rfl (by decide) (by decide) hk1 hFc hP1 hD1
      have hP : va_P D vwCl [((a 200), f_m a g), (o1, .inl (g 1, 1, .inr (.inl (fun _ => 0))))] H := hP
      have hD : va_D (va_A [] s.heap.size) [((a 200), f_m a g), (o1, .inl (g 1, 1, .inr (.inl (fun _ => 0))))] := hD
      refine lv_istore (lv' := [(6, .int 2), (0, .ref b), (1, .ref (a 0)), (2, .ref (a 200)), (3, .ref o1), (4, .ref o2), (5, .int 0)]) hx hb dL_law_3248 hl (by decide) rfl (fun ls hl => ?_)
      refine lv_aload_n hx hb dL_law_3250 rfl (lv_at hl 3 rfl) ?_
      refine lv_aload_n hx hb dL_law_3251 rfl (lv_at hl 1 rfl) ?_
      refine lv_iload hx hb dL_law_3252 (lv_at hl 6 rfl) ?_
      refine lv_iconst (v := 1) hx hb dL_law_3254 (by decide) ?_
      refine lv_iadd hx hb dL_law_3255 ?_
      refine r_topi (v := 1) (by decide) ?_
      refine va_sld hx hb hX hbl hbA hS (by unfold vp_in; decide) dL_law_3256 ?_
      refine r_topi (v := xs 1) (congrArg xs (by decide)) ?_
      refine lv_i2c (v := ((xs 1).toUInt32 % 65536).toInt32) hx hb dL_law_3257 rfl ?_
      refine lv_aload_n hx hb dL_law_3258 rfl (lv_at hl 1 rfl) ?_
      refine lv_iload hx hb dL_law_3259 (lv_at hl 6 rfl) ?_
      refine lv_iconst (v := 2) hx hb dL_law_3261 (by decide) ?_
      refine lv_iadd hx hb dL_law_3262 ?_
      refine r_topi (v := 2) (by decide) ?_
      refine va_sld hx hb hX hbl hbA hS (by unfold vp_in; decide) dL_law_3263 ?_
      refine r_topi (v := xs 2) (congrArg xs (by decide)) ?_
      refine lv_aload_n hx hb dL_law_3264 rfl (lv_at hl 1 rfl) ?_
      refine lv_iload hx hb dL_law_3265 (lv_at hl 6 rfl) ?_
      refine lv_iconst (v := 3) hx hb dL_law_3267 (by decide) ?_
      refine lv_iadd hx hb dL_law_3268 ?_
      refine r_topi (v := 3) (by decide) ?_
      refine va_sld hx hb hX hbl hbA hS (by unfold vp_in; decide) dL_law_3269 ?_
      refine r_topi (v := xs 3) (congrArg xs (by decide)) ?_
      refine lv_aload_n hx hb dL_law_3270 rfl (lv_at hl 1 rfl) ?_
      refine lv_iload hx hb dL_law_3271 (lv_at hl 6 rfl) ?_
      refine lv_iconst (v := 4) hx hb dL_law_3273 (by decide) ?_
      refine lv_iadd hx hb dL_law_3274 ?_
      refine r_topi (v := 4) (by decide) ?_
      refine va_sld hx hb hX hbl hbA hS (by unfold vp_in; decide) dL_law_3275 ?_
      refine r_topi (v := xs 4) (congrArg xs (by decide)) ?_
      refine lv_aload_n hx hb dL_law_3276 rfl (lv_at hl 1 rfl) ?_
      refine lv_iload hx hb dL_law_3277 (lv_at hl 6 rfl) ?_
      refine lv_iconst (v := 5) hx hb dL_law_3279 (by decide) ?_
      refine lv_iadd hx hb dL_law_3280 ?_
      refine r_topi (v := 5) (by decide) ?_
      refine va_sld hx hb hX hbl hbA hS (by unfold vp_in; decide) dL_law_3281 ?_
      refine r_topi (v := xs 5) (congrArg xs (by decide)) ?_
      have hPc : va_P D vwCl [((a 200), f_m a g)] _ := hP.sub (ws' := [((a 200), f_m a g)]) [0] rfl
      have hDc : va_D (fun q => z0 ≤ q) [((a 200), f_m a g)] := (hD.to hAz).pick (ws' := [((a 200), f_m a g)]) [0] (by decide) rfl
      have hFc := va_free (wc := [((a 200), f_m a g)]) hD hS hA [0] rfl
      refine va_calli (va_runV (As := [.int (((xs 1).toUInt32 % 65536).toInt32), .int (xs 2), .int (xs 3), .int (xs 4), .int (xs 5)]) (rest := []) ⟨hx, hb, hml, hown, ht⟩ (k_X15_marchFinds l D g z0 _ a (((xs 1).toUInt32 % 65536).toInt32) (xs 2) (xs 3) (xs 4) (xs 5) (isC_i2c _)) (cwV 5 ht (gV w_1231 w_1233 w_1234 w_334 w_1232) rfl rfl rfl (by decide +kernel) (le2 rfl rfl)) ⟨PP.blind, va_recv hK.1 hP (ci := 21) (q0 := 0) rfl rfl, PP.mk' hK hZ hz hAz hS hPc hDc⟩ rfl rfl hl.1 rfl (lv_room (Nat.le_of_ble_eq_true rfl)) dL_law_3282 (le2 rfl rfl)) hS (fun q _ h => hFc q h) hFc (fun r u t H locs ht1 hvm hw hB hz1 hk1 hS => ?_)
      rcases hw with hw | hw
      · obtain ⟨rfl, rfl, hw⟩ := hw
        rcases hw with hw | hw | hw | hw | hw | hw | hw | hw | hw | hw | hw | hw | hw | hw | hw | hw | hw | hw | hw | hw | hw | hw | hw | hw | hw | hw | hw | hw | hw | hw | hw | hw
        · obtain ⟨c_6861, c_6862, c_6863, c_6864, c_6865⟩ := hw
          exact absurd c_6853 c_6861
        · obtain ⟨c_6866, c_6867, c_6868, c_6869, c_6870⟩ := hw
          exact absurd c_6853 c_6866
        · obtain ⟨c_6871, c_6872, c_6873, c_6874, c_6875⟩ := hw
          exact absurd c_6853 c_6871
        · obtain ⟨c_6876, c_6877, c_6878, c_6879⟩ := hw
          exact absurd (c_6853.symm.trans c_6876) (by decide)
        · obtain ⟨c_6880, c_6881, c_6882, c_6883, c_6884⟩ := hw
          exact absurd (c_6853.symm.trans c_6880) (by decide)
        · obtain ⟨c_6885, c_6886, c_6887, c_6888, c_6889, c_6890⟩ := hw
          exact absurd (c_6853.symm.trans c_6885) (by decide)
        · obtain ⟨c_6891, c_6892, c_6893, c_6894, c_6895, c_6896, c_6897⟩ := hw
          exact absurd (c_6853.symm.trans c_6891) (by decide)
        · obtain ⟨c_6898, c_6899, c_6900, c_6901, c_6902, c_6903, c_6904, c_6905⟩ := hw
          exact absurd (c_6853.symm.trans c_6898) (by decide)
        · obtain ⟨c_6906, c_6907, c_6908⟩ := hw
          exact absurd (c_6853.symm.trans c_6906) (by decide)
        · obtain ⟨c_6909, c_6910, c_6911, c_6912⟩ := hw
          exact absurd (c_6853.symm.trans c_6909) (by decide)
        · obtain ⟨c_6913, c_6914, c_6915, c_6916, c_6917⟩ := hw
          exact absurd (c_6853.symm.trans c_6913) (by decide)
        · obtain ⟨c_6918, c_6919, c_6920, c_6921, c_6922, c_6923⟩ := hw
          exact absurd (c_6853.symm.trans c_6918) (by decide)
        · obtain ⟨c_6924, c_6925, c_6926, c_6927, c_6928, c_6929, c_6930⟩ := hw
          exact absurd (c_6853.symm.trans c_6924) (by decide)
        · obtain ⟨c_6931, c_6932, c_6933, c_6934, c_6935, c_6936, c_6937, c_6938, c_6939⟩ := hw
          exact absurd (c_6853.symm.trans c_6931) (by decide)
        · obtain ⟨c_6940, c_6941, c_6942, c_6943, c_6944, c_6945, c_6946, c_6947, c_6948, c_6949⟩ := hw
          exact absurd (c_6853.symm.trans c_6940) (by decide)
        · obtain ⟨c_6950, c_6951⟩ := hw
          exact absurd (c_6853.symm.trans c_6950) (by decide)
        · obtain ⟨c_6952, c_6953, c_6954⟩ := hw
          exact absurd (c_6853.symm.trans c_6952) (by decide)
        · obtain ⟨c_6955, c_6956, c_6957, c_6958⟩ := hw
          exact absurd (c_6853.symm.trans c_6955) (by decide)
        · obtain ⟨c_6959, c_6960, c_6961, c_6962, c_6963⟩ := hw
          exact absurd (c_6853.symm.trans c_6959) (by decide)
        · obtain ⟨c_6964, c_6965, c_6966, c_6967, c_6968, c_6969⟩ := hw
          exact absurd (c_6853.symm.trans c_6964) (by decide)
        · obtain ⟨c_6970, c_6971, c_6972, c_6973, c_6974, c_6975, c_6976, c_6977⟩ := hw
          exact absurd (c_6853.symm.trans c_6970) (by decide)
        · obtain ⟨c_6978, c_6979, c_6980, c_6981, c_6982, c_6983, c_6984, c_6985, c_6986⟩ := hw
          exact absurd (c_6853.symm.trans c_6978) (by decide)
        · obtain ⟨c_6987, c_6988, c_6989, c_6990, c_6991, c_6992, c_6993, c_6994, c_6995, c_6996⟩ := hw
          exact absurd (c_6853.symm.trans c_6987) (by decide)
        · obtain ⟨c_6997, c_6998, c_6999, c_7000, c_7001, c_7002, c_7003, c_7004, c_7005, c_7006, c_7007⟩ := hw
          exact absurd (c_6853.symm.trans c_6997) (by decide)
        · obtain ⟨c_7008, c_7009, c_7010, c_7011, c_7012⟩ := hw
          exact absurd (c_6853.symm.trans c_7008) (by decide)
        · obtain ⟨c_7013, c_7014, c_7015, c_7016, c_7017, c_7018⟩ := hw
          exact absurd (c_6853.symm.trans c_7013) (by decide)
        · obtain ⟨c_7019, c_7020, c_7021, c_7022, c_7023, c_7024, c_7025⟩ := hw
          exact absurd (c_6853.symm.trans c_7019) (by decide)
        · obtain ⟨c_7026, c_7027, c_7028, c_7029, c_7030, c_7031, c_7032, c_7033⟩ := hw
          exact absurd (c_6853.symm.trans c_7026) (by decide)
        · obtain ⟨c_7034, c_7035, c_7036, c_7037, c_7038⟩ := hw
          exact absurd c_7038 c_6854
        · obtain ⟨c_7039, c_7040, c_7041, c_7042, c_7043, c_7044⟩ := hw
          exact absurd (Int.le_trans (lo_lt c_7044) (up_lt c_6855)) (by decide)
        · obtain ⟨c_7045, c_7046, c_7047, c_7048, c_7049, c_7050, c_7051⟩ := hw
          exact absurd (c_6860 ▸ c_7051) (by decide)
        · obtain ⟨c_7052, c_7053, c_7054, c_7055, c_7056, c_7057, c_7058, c_7059⟩ := hw
          exact absurd (c_6860 ▸ c_7059) (by decide)
      · obtain ⟨rfl, rfl, hw⟩ := hw
        rcases hw with hw | hw | hw | hw | hw
        · obtain ⟨c_7060, c_7061, c_7062, c_7063, c_7064, c_7065, c_7066, c_7067⟩ := hw
          exact absurd (c_6853.symm.trans c_7060) (by decide)
        · obtain ⟨c_7068, c_7069, c_7070, c_7071, c_7072, c_7073, c_7074, c_7075, c_7076, c_7077⟩ := hw
          exact absurd (c_6853.symm.trans c_7068) (by decide)
        · obtain ⟨c_7078, c_7079, c_7080, c_7081, c_7082, c_7083, c_7084, c_7085, c_7086, c_7087, c_7088⟩ := hw
          exact absurd (c_6853.symm.trans c_7078) (by decide)
        · obtain ⟨c_7089, c_7090, c_7091, c_7092, c_7093, c_7094, c_7095, c_7096⟩ := hw
          exact absurd (c_6853.symm.trans c_7089) (by decide)
        · obtain ⟨c_7097, c_7098, c_7099, c_7100, c_7101, c_7102, c_7103, c_7104⟩ := hw
          obtain ⟨hP1, hD1⟩ := hB
          rw [ht1] at hP1
          obtain ⟨hP, hD⟩ := va_join (wr := [(o1, .inl (g 1, 1, .inr (.inl (fun _ => 0))))]) (w1 := [((a 200), .inr (21, [.int 2, .ref (a 201), .ref (a 202), .ref (a 203), .ref (a 204), .ref (a 205), .ref (a 206), .int 0, .int 0, .int 0, .int 0, .ref (a 208), .ref (a 209), .ref (a 210), .ref (a 211), .ref (a 212), .int 4, .int 12, .int (-1), .int 0, .ref (g 200), .ref (a 213), .int 0, .int 97, .ref (a 214), .ref (a 215), .ref (a 207), .null, .int 0]))]) hP hD [0] [1] rfl rfl (by decide) (by decide) hk1 hFc hP1 hD1
          have hP : va_P D vwCl [(o1, .inl (g 1, 1, .inr (.inl (fun _ => 0)))), ((a 200), .inr (21, [.int 2, .ref (a 201), .ref (a 202), .ref (a 203), .ref (a 204), .ref (a 205), .ref (a 206), .int 0, .int 0, .int 0, .int 0, .ref (a 208), .ref (a 209), .ref (a 210), .ref (a 211), .ref (a 212), .int 4, .int 12, .int (-1), .int 0, .ref (g 200), .ref (a 213), .int 0, .int 97, .ref (a 214), .ref (a 215), .ref (a 207), .null, .int 0]))] H := hP
          have hD : va_D (va_A [] s.heap.size) [(o1, .inl (g 1, 1, .inr (.inl (fun _ => 0)))), ((a 200), .inr (21, [.int 2, .ref (a 201), .ref (a 202), .ref (a 203), .ref (a 204), .ref (a 205), .ref (a 206), .int 0, .int 0, .int 0, .int 0, .ref (a 208), .ref (a 209), .ref (a 210), .ref (a 211), .ref (a 212), .int 4, .int 12, .int (-1), .int 0, .ref (g 200), .ref (a 213), .int 0, .int 97, .ref (a 214), .ref (a 215), .ref (a 207), .null, .int 0]))] := hD
          refine lv_istore (lv' := [(7, .int 0), (6, .int 2), (0, .ref b), (1, .ref (a 0)), (2, .ref (a 200)), (3, .ref o1), (4, .ref o2), (5, .int 0)]) hx hb dL_law_3285 hl (by decide) rfl (fun ls hl => ?_)
          refine lv_aload_n hx hb dL_law_3287 rfl (lv_at hl 4 rfl) ?_
          have hPc : va_P D vwCl [((a 200), .inr (21, [.int 2, .ref (a 201), .ref (a 202), .ref (a 203), .ref (a 204), .ref (a 205), .ref (a 206), .int 0, .int 0, .int 0, .int 0, .ref (a 208), .ref (a 209), .ref (a 210), .ref (a 211), .ref (a 212), .int 4, .int 12, .int (-1), .int 0, .ref (g 200), .ref (a 213), .int 0, .int 97, .ref (a 214), .ref (a 215), .ref (a 207), .null, .int 0]))] _ := hP.sub (ws' := [((a 200), .inr (21, [.int 2, .ref (a 201), .ref (a 202), .ref (a 203), .ref (a 204), .ref (a 205), .ref (a 206), .int 0, .int 0, .int 0, .int 0, .ref (a 208), .ref (a 209), .ref (a 210), .ref (a 211), .ref (a 212), .int 4, .int 12, .int (-1), .int 0, .ref (g 200), .ref (a 213), .int 0, .int 97, .ref (a 214), .ref (a 215), .ref (a 207), .null, .int 0]))]) [1] rfl
          have hDc : va_D (fun q => z0 ≤ q) [((a 200), .inr (21, [.int 2, .ref (a 201), .ref (a 202), .ref (a 203), .ref (a 204), .ref (a 205), .ref (a 206), .int 0, .int 0, .int 0, .int 0, .ref (a 208), .ref (a 209), .ref (a 210), .ref (a 211), .ref (a 212), .int 4, .int 12, .int (-1), .int 0, .ref (g 200), .ref (a 213), .int 0, .int 97, .ref (a 214), .ref (a 215), .ref (a 207), .null, .int 0]))] := (hD.to hAz).pick (ws' := [((a 200), .inr (21, [.int 2, .ref (a 201), .ref (a 202), .ref (a 203), .ref (a 204), .ref (a 205), .ref (a 206), .int 0, .int 0, .int 0, .int 0, .ref (a 208), .ref (a 209), .ref (a 210), .ref (a 211), .ref (a 212), .int 4, .int 12, .int (-1), .int 0, .ref (g 200), .ref (a 213), .int 0, .int 97, .ref (a 214), .ref (a 215), .ref (a 207), .null, .int 0]))]) [1] (by decide) rfl
          have hFc := va_free (wc := [((a 200), .inr (21, [.int 2, .ref (a 201), .ref (a 202), .ref (a 203), .ref (a 204), .ref (a 205), .ref (a 206), .int 0, .int 0, .int 0, .int 0, .ref (a 208), .ref (a 209), .ref (a 210), .ref (a 211), .ref (a 212), .int 4, .int 12, .int (-1), .int 0, .ref (g 200), .ref (a 213), .int 0, .int 97, .ref (a 214), .ref (a 215), .ref (a 207), .null, .int 0]))]) hD hS hA [1] rfl
          refine va_calli (va_runV (As := []) (rest := []) ⟨hx, hb, hml, hown, ht⟩ (k_X15_thrown_v1 l D g z0 _ a) (cwV 0 ht (gV w_772 w_774 w_775 w_334 w_773) rfl rfl rfl (by decide +kernel) (le2 rfl rfl)) ⟨PP.blind, va_recv hK.1 hP (ci := 21) (q0 := 1) rfl rfl, PP.mk' hK hZ hz hAz hS hPc hDc⟩ rfl rfl hl.1 rfl (lv_room (Nat.le_of_ble_eq_true rfl)) dL_law_3288 (le2 rfl rfl)) hS (fun q _ h => hFc q h) hFc (fun r u t H locs ht1 hvm hw hB hz1 hk1 hS => ?_)
          obtain ⟨rfl, hw⟩ := hw
          obtain ⟨hP1, hD1⟩ := hB
          rw [ht1] at hP1
          obtain ⟨hP, hD⟩ := va_join (wr := [(o1, .inl (g 1, 1, .inr (.inl (fun _ => 0))))]) (w1 := [((a 200), .inr (21, [.int 2, .ref (a 201), .ref (a 202), .ref (a 203), .ref (a 204), .ref (a 205), .ref (a 206), .int 0, .int 0, .int 0, .int 0, .ref (a 208), .ref (a 209), .ref (a 210), .ref (a 211), .ref (a 212), .int 4, .int 12, .int (-1), .int 0, .ref (g 200), .ref (a 213), .int 0, .int 97, .ref (a 214), .ref (a 215), .ref (a 207), .null, .int 0]))]) hP hD [1] [0] rfl rfl (by decide) (by decide) hk1 hFc hP1 hD1
          have hP : va_P D vwCl [(o1, .inl (g 1, 1, .inr (.inl (fun _ => 0)))), ((a 200), .inr (21, [.int 2, .ref (a 201), .ref (a 202), .ref (a 203), .ref (a 204), .ref (a 205), .ref (a 206), .int 0, .int 0, .int 0, .int 0, .ref (a 208), .ref (a 209), .ref (a 210), .ref (a 211), .ref (a 212), .int 4, .int 12, .int (-1), .int 0, .ref (g 200), .ref (a 213), .int 0, .int 97, .ref (a 214), .ref (a 215), .ref (a 207), .null, .int 0]))] H := hP
          have hD : va_D (va_A [] s.heap.size) [(o1, .inl (g 1, 1, .inr (.inl (fun _ => 0)))), ((a 200), .inr (21, [.int 2, .ref (a 201), .ref (a 202), .ref (a 203), .ref (a 204), .ref (a 205), .ref (a 206), .int 0, .int 0, .int 0, .int 0, .ref (a 208), .ref (a 209), .ref (a 210), .ref (a 211), .ref (a 212), .int 4, .int 12, .int (-1), .int 0, .ref (g 200), .ref (a 213), .int 0, .int 97, .ref (a 214), .ref (a 215), .ref (a 207), .null, .int 0]))] := hD
          refine lv_iload hx hb dL_law_3291 (lv_at hl 1 rfl) ?_
          refine lv_icmp_eq (tgt := 3298) hx hb dL_law_3293 (by decide) (fun c_7105 => ?_) (fun c_7105 => ?_)
          · refine lv_iload hx hb dL_law_3298 (lv_at hl 1 rfl) ?_
            refine lv_if_ne (tgt := 3322) hx hb dL_law_3300 (by decide) (fun c_7106 => ?_) (fun c_7106 => ?_)
            · refine lv_goto (tgt := 4264) hx hb dL_law_3322 (by decide) ?_
              refine W.widen (k := 200 + 300) (n := 8000 + 2000) (Nat.le_of_ble_eq_true rfl) (Nat.le_of_ble_eq_true rfl) ?_
              exact kk _ _ _ hS (lv_sub hl [7, 2] rfl)
            · exact absurd c_7106 (by decide)
          · exact absurd c_7105 (by decide)
    · obtain ⟨c_7107, c_7108, c_7109, c_7110, c_7111, c_7112, c_7113, c_7114⟩ := hw
      obtain ⟨hP1, hD1⟩ := hB
      rw [ht1] at hP1
      obtain ⟨hP, hD⟩ := va_join (wr := [((a 200), f_m a g)]) (w1 := [(o1, .inl (g 1, 1, .inr (.inl (fun _ => 0))))]) hP hD [3, 0, 1] [2] rfl rfl (by decide) (by decide) hk1 hFc hP1 hD1
      have hP : va_P D vwCl [((a 200), f_m a g), (o1, .inl (g 1, 1, .inr (.inl (fun _ => 0))))] H := hP
      have hD : va_D (va_A [] s.heap.size) [((a 200), f_m a g), (o1, .inl (g 1, 1, .inr (.inl (fun _ => 0))))] := hD
      refine lv_istore (lv' := [(6, .int 2), (0, .ref b), (1, .ref (a 0)), (2, .ref (a 200)), (3, .ref o1), (4, .ref o2), (5, .int 0)]) hx hb dL_law_3248 hl (by decide) rfl (fun ls hl => ?_)
      refine lv_aload_n hx hb dL_law_3250 rfl (lv_at hl 3 rfl) ?_
      refine lv_aload_n hx hb dL_law_3251 rfl (lv_at hl 1 rfl) ?_
      refine lv_iload hx hb dL_law_3252 (lv_at hl 6 rfl) ?_
      refine lv_iconst (v := 1) hx hb dL_law_3254 (by decide) ?_
      refine lv_iadd hx hb dL_law_3255 ?_
      refine r_topi (v := 1) (by decide) ?_
      refine va_sld hx hb hX hbl hbA hS (by unfold vp_in; decide) dL_law_3256 ?_
      refine r_topi (v := xs 1) (congrArg xs (by decide)) ?_
      refine lv_i2c (v := ((xs 1).toUInt32 % 65536).toInt32) hx hb dL_law_3257 rfl ?_
      refine lv_aload_n hx hb dL_law_3258 rfl (lv_at hl 1 rfl) ?_
      refine lv_iload hx hb dL_law_3259 (lv_at hl 6 rfl) ?_
      refine lv_iconst (v := 2) hx hb dL_law_3261 (by decide) ?_
      refine lv_iadd hx hb dL_law_3262 ?_
      refine r_topi (v := 2) (by decide) ?_
      refine va_sld hx hb hX hbl hbA hS (by unfold vp_in; decide) dL_law_3263 ?_
      refine r_topi (v := xs 2) (congrArg xs (by decide)) ?_
      refine lv_aload_n hx hb dL_law_3264 rfl (lv_at hl 1 rfl) ?_
      refine lv_iload hx hb dL_law_3265 (lv_at hl 6 rfl) ?_
      refine lv_iconst (v := 3) hx hb dL_law_3267 (by decide) ?_
      refine lv_iadd hx hb dL_law_3268 ?_
      refine r_topi (v := 3) (by decide) ?_
      refine va_sld hx hb hX hbl hbA hS (by unfold vp_in; decide) dL_law_3269 ?_
      refine r_topi (v := xs 3) (congrArg xs (by decide)) ?_
      refine lv_aload_n hx hb dL_law_3270 rfl (lv_at hl 1 rfl) ?_
      refine lv_iload hx hb dL_law_3271 (lv_at hl 6 rfl) ?_
      refine lv_iconst (v := 4) hx hb dL_law_3273 (by decide) ?_
      refine lv_iadd hx hb dL_law_3274 ?_
      refine r_topi (v := 4) (by decide) ?_
      refine va_sld hx hb hX hbl hbA hS (by unfold vp_in; decide) dL_law_3275 ?_
      refine r_topi (v := xs 4) (congrArg xs (by decide)) ?_
      refine lv_aload_n hx hb dL_law_3276 rfl (lv_at hl 1 rfl) ?_
      refine lv_iload hx hb dL_law_3277 (lv_at hl 6 rfl) ?_
      refine lv_iconst (v := 5) hx hb dL_law_3279 (by decide) ?_
      refine lv_iadd hx hb dL_law_3280 ?_
      refine r_topi (v := 5) (by decide) ?_
      refine va_sld hx hb hX hbl hbA hS (by unfold vp_in; decide) dL_law_3281 ?_
      refine r_topi (v := xs 5) (congrArg xs (by decide)) ?_
      have hPc : va_P D vwCl [((a 200), f_m a g)] _ := hP.sub (ws' := [((a 200), f_m a g)]) [0] rfl
      have hDc : va_D (fun q => z0 ≤ q) [((a 200), f_m a g)] := (hD.to hAz).pick (ws' := [((a 200), f_m a g)]) [0] (by decide) rfl
      have hFc := va_free (wc := [((a 200), f_m a g)]) hD hS hA [0] rfl
      refine va_calli (va_runV (As := [.int (((xs 1).toUInt32 % 65536).toInt32), .int (xs 2), .int (xs 3), .int (xs 4), .int (xs 5)]) (rest := []) ⟨hx, hb, hml, hown, ht⟩ (k_X15_marchFinds l D g z0 _ a (((xs 1).toUInt32 % 65536).toInt32) (xs 2) (xs 3) (xs 4) (xs 5) (isC_i2c _)) (cwV 5 ht (gV w_1231 w_1233 w_1234 w_334 w_1232) rfl rfl rfl (by decide +kernel) (le2 rfl rfl)) ⟨PP.blind, va_recv hK.1 hP (ci := 21) (q0 := 0) rfl rfl, PP.mk' hK hZ hz hAz hS hPc hDc⟩ rfl rfl hl.1 rfl (lv_room (Nat.le_of_ble_eq_true rfl)) dL_law_3282 (le2 rfl rfl)) hS (fun q _ h => hFc q h) hFc (fun r u t H locs ht1 hvm hw hB hz1 hk1 hS => ?_)
      rcases hw with hw | hw
      · obtain ⟨rfl, rfl, hw⟩ := hw
        rcases hw with hw | hw | hw | hw | hw | hw | hw | hw | hw | hw | hw | hw | hw | hw | hw | hw | hw | hw | hw | hw | hw | hw | hw | hw | hw | hw | hw | hw | hw | hw | hw | hw
        · obtain ⟨c_7115, c_7116, c_7117, c_7118, c_7119⟩ := hw
          exact absurd c_7108 c_7116
        · obtain ⟨c_7120, c_7121, c_7122, c_7123, c_7124⟩ := hw
          exact absurd c_7108 c_7121
        · obtain ⟨c_7125, c_7126, c_7127, c_7128, c_7129⟩ := hw
          exact absurd c_7108 c_7126
        · obtain ⟨c_7130, c_7131, c_7132, c_7133⟩ := hw
          exact absurd (c_7108.symm.trans c_7130) (by decide)
        · obtain ⟨c_7134, c_7135, c_7136, c_7137, c_7138⟩ := hw
          exact absurd (c_7108.symm.trans c_7134) (by decide)
        · obtain ⟨c_7139, c_7140, c_7141, c_7142, c_7143, c_7144⟩ := hw
          exact absurd (c_7108.symm.trans c_7139) (by decide)
        · obtain ⟨c_7145, c_7146, c_7147, c_7148, c_7149, c_7150, c_7151⟩ := hw
          exact absurd (c_7108.symm.trans c_7145) (by decide)
        · obtain ⟨c_7152, c_7153, c_7154, c_7155, c_7156, c_7157, c_7158, c_7159⟩ := hw
          exact absurd (c_7108.symm.trans c_7152) (by decide)
        · obtain ⟨c_7160, c_7161, c_7162⟩ := hw
          exact absurd (c_7108.symm.trans c_7160) (by decide)
        · obtain ⟨c_7163, c_7164, c_7165, c_7166⟩ := hw
          exact absurd (c_7108.symm.trans c_7163) (by decide)
        · obtain ⟨c_7167, c_7168, c_7169, c_7170, c_7171⟩ := hw
          exact absurd (c_7108.symm.trans c_7167) (by decide)
        · obtain ⟨c_7172, c_7173, c_7174, c_7175, c_7176, c_7177⟩ := hw
          exact absurd (c_7108.symm.trans c_7172) (by decide)
        · obtain ⟨c_7178, c_7179, c_7180, c_7181, c_7182, c_7183, c_7184⟩ := hw
          exact absurd (c_7108.symm.trans c_7178) (by decide)
        · obtain ⟨c_7185, c_7186, c_7187, c_7188, c_7189, c_7190, c_7191, c_7192, c_7193⟩ := hw
          exact absurd (c_7108.symm.trans c_7185) (by decide)
        · obtain ⟨c_7194, c_7195, c_7196, c_7197, c_7198, c_7199, c_7200, c_7201, c_7202, c_7203⟩ := hw
          exact absurd (c_7108.symm.trans c_7194) (by decide)
        · obtain ⟨c_7204, c_7205⟩ := hw
          exact absurd (c_7108.symm.trans c_7204) (by decide)
        · obtain ⟨c_7206, c_7207, c_7208⟩ := hw
          exact absurd (c_7108.symm.trans c_7206) (by decide)
        · obtain ⟨c_7209, c_7210, c_7211, c_7212⟩ := hw
          exact absurd (c_7108.symm.trans c_7209) (by decide)
        · obtain ⟨c_7213, c_7214, c_7215, c_7216, c_7217⟩ := hw
          exact absurd (c_7108.symm.trans c_7213) (by decide)
        · obtain ⟨c_7218, c_7219, c_7220, c_7221, c_7222, c_7223⟩ := hw
          exact absurd (c_7108.symm.trans c_7218) (by decide)
        · obtain ⟨c_7224, c_7225, c_7226, c_7227, c_7228, c_7229, c_7230, c_7231⟩ := hw
          exact absurd (c_7108.symm.trans c_7224) (by decide)
        · obtain ⟨c_7232, c_7233, c_7234, c_7235, c_7236, c_7237, c_7238, c_7239, c_7240⟩ := hw
          exact absurd (c_7108.symm.trans c_7232) (by decide)
        · obtain ⟨c_7241, c_7242, c_7243, c_7244, c_7245, c_7246, c_7247, c_7248, c_7249, c_7250⟩ := hw
          exact absurd (c_7108.symm.trans c_7241) (by decide)
        · obtain ⟨c_7251, c_7252, c_7253, c_7254, c_7255, c_7256, c_7257, c_7258, c_7259, c_7260, c_7261⟩ := hw
          exact absurd (c_7108.symm.trans c_7251) (by decide)
        · obtain ⟨c_7262, c_7263, c_7264, c_7265, c_7266⟩ := hw
          exact absurd c_7266 c_7109
        · obtain ⟨c_7267, c_7268, c_7269, c_7270, c_7271, c_7272⟩ := hw
          exact absurd (Int.le_trans (lo_lt c_7272) (up_lt c_7110)) (by decide)
        · obtain ⟨c_7273, c_7274, c_7275, c_7276, c_7277, c_7278, c_7279⟩ := hw
          exact absurd (c_7114 ▸ c_7279) (by decide)
        · obtain ⟨c_7280, c_7281, c_7282, c_7283, c_7284, c_7285, c_7286, c_7287⟩ := hw
          exact absurd (c_7114 ▸ c_7287) (by decide)
        · obtain ⟨c_7288, c_7289, c_7290, c_7291, c_7292⟩ := hw
          exact absurd c_7288 c_7107
        · obtain ⟨c_7293, c_7294, c_7295, c_7296, c_7297, c_7298⟩ := hw
          exact absurd c_7293 c_7107
        · obtain ⟨c_7299, c_7300, c_7301, c_7302, c_7303, c_7304, c_7305⟩ := hw
          exact absurd c_7299 c_7107
        · obtain ⟨c_7306, c_7307, c_7308, c_7309, c_7310, c_7311, c_7312, c_7313⟩ := hw
          exact absurd c_7306 c_7107
      · obtain ⟨rfl, rfl, hw⟩ := hw
        rcases hw with hw | hw | hw | hw | hw
        · obtain ⟨c_7314, c_7315, c_7316, c_7317, c_7318, c_7319, c_7320, c_7321⟩ := hw
          exact absurd (c_7108.symm.trans c_7314) (by decide)
        · obtain ⟨c_7322, c_7323, c_7324, c_7325, c_7326, c_7327, c_7328, c_7329, c_7330, c_7331⟩ := hw
          exact absurd (c_7108.symm.trans c_7322) (by decide)
        · obtain ⟨c_7332, c_7333, c_7334, c_7335, c_7336, c_7337, c_7338, c_7339, c_7340, c_7341, c_7342⟩ := hw
          exact absurd (c_7108.symm.trans c_7332) (by decide)
        · obtain ⟨c_7343, c_7344, c_7345, c_7346, c_7347, c_7348, c_7349, c_7350⟩ := hw
          obtain ⟨hP1, hD1⟩ := hB
          rw [ht1] at hP1
          obtain ⟨hP, hD⟩ := va_join (wr := [(o1, .inl (g 1, 1, .inr (.inl (fun _ => 0))))]) (w1 := [((a 200), .inr (21, [.int 2, .ref (a 201), .ref (a 202), .ref (a 203), .ref (a 204), .ref (a 205), .ref (a 206), .int 0, .int 0, .int 0, .int 0, .ref (a 208), .ref (a 209), .ref (a 210), .ref (a 211), .ref (a 212), .int 4, .int 12, .int (-1), .int 0, .ref (g 200), .ref (a 213), .int 0, .int 97, .ref (a 214), .ref (a 215), .ref (a 207), .null, .int 0]))]) hP hD [0] [1] rfl rfl (by decide) (by decide) hk1 hFc hP1 hD1
          have hP : va_P D vwCl [(o1, .inl (g 1, 1, .inr (.inl (fun _ => 0)))), ((a 200), .inr (21, [.int 2, .ref (a 201), .ref (a 202), .ref (a 203), .ref (a 204), .ref (a 205), .ref (a 206), .int 0, .int 0, .int 0, .int 0, .ref (a 208), .ref (a 209), .ref (a 210), .ref (a 211), .ref (a 212), .int 4, .int 12, .int (-1), .int 0, .ref (g 200), .ref (a 213), .int 0, .int 97, .ref (a 214), .ref (a 215), .ref (a 207), .null, .int 0]))] H := hP
          have hD : va_D (va_A [] s.heap.size) [(o1, .inl (g 1, 1, .inr (.inl (fun _ => 0)))), ((a 200), .inr (21, [.int 2, .ref (a 201), .ref (a 202), .ref (a 203), .ref (a 204), .ref (a 205), .ref (a 206), .int 0, .int 0, .int 0, .int 0, .ref (a 208), .ref (a 209), .ref (a 210), .ref (a 211), .ref (a 212), .int 4, .int 12, .int (-1), .int 0, .ref (g 200), .ref (a 213), .int 0, .int 97, .ref (a 214), .ref (a 215), .ref (a 207), .null, .int 0]))] := hD
          refine lv_istore (lv' := [(7, .int 0), (6, .int 2), (0, .ref b), (1, .ref (a 0)), (2, .ref (a 200)), (3, .ref o1), (4, .ref o2), (5, .int 0)]) hx hb dL_law_3285 hl (by decide) rfl (fun ls hl => ?_)
          refine lv_aload_n hx hb dL_law_3287 rfl (lv_at hl 4 rfl) ?_
          have hPc : va_P D vwCl [((a 200), .inr (21, [.int 2, .ref (a 201), .ref (a 202), .ref (a 203), .ref (a 204), .ref (a 205), .ref (a 206), .int 0, .int 0, .int 0, .int 0, .ref (a 208), .ref (a 209), .ref (a 210), .ref (a 211), .ref (a 212), .int 4, .int 12, .int (-1), .int 0, .ref (g 200), .ref (a 213), .int 0, .int 97, .ref (a 214), .ref (a 215), .ref (a 207), .null, .int 0]))] _ := hP.sub (ws' := [((a 200), .inr (21, [.int 2, .ref (a 201), .ref (a 202), .ref (a 203), .ref (a 204), .ref (a 205), .ref (a 206), .int 0, .int 0, .int 0, .int 0, .ref (a 208), .ref (a 209), .ref (a 210), .ref (a 211), .ref (a 212), .int 4, .int 12, .int (-1), .int 0, .ref (g 200), .ref (a 213), .int 0, .int 97, .ref (a 214), .ref (a 215), .ref (a 207), .null, .int 0]))]) [1] rfl
          have hDc : va_D (fun q => z0 ≤ q) [((a 200), .inr (21, [.int 2, .ref (a 201), .ref (a 202), .ref (a 203), .ref (a 204), .ref (a 205), .ref (a 206), .int 0, .int 0, .int 0, .int 0, .ref (a 208), .ref (a 209), .ref (a 210), .ref (a 211), .ref (a 212), .int 4, .int 12, .int (-1), .int 0, .ref (g 200), .ref (a 213), .int 0, .int 97, .ref (a 214), .ref (a 215), .ref (a 207), .null, .int 0]))] := (hD.to hAz).pick (ws' := [((a 200), .inr (21, [.int 2, .ref (a 201), .ref (a 202), .ref (a 203), .ref (a 204), .ref (a 205), .ref (a 206), .int 0, .int 0, .int 0, .int 0, .ref (a 208), .ref (a 209), .ref (a 210), .ref (a 211), .ref (a 212), .int 4, .int 12, .int (-1), .int 0, .ref (g 200), .ref (a 213), .int 0, .int 97, .ref (a 214), .ref (a 215), .ref (a 207), .null, .int 0]))]) [1] (by decide) rfl
          have hFc := va_free (wc := [((a 200), .inr (21, [.int 2, .ref (a 201), .ref (a 202), .ref (a 203), .ref (a 204), .ref (a 205), .ref (a 206), .int 0, .int 0, .int 0, .int 0, .ref (a 208), .ref (a 209), .ref (a 210), .ref (a 211), .ref (a 212), .int 4, .int 12, .int (-1), .int 0, .ref (g 200), .ref (a 213), .int 0, .int 97, .ref (a 214), .ref (a 215), .ref (a 207), .null, .int 0]))]) hD hS hA [1] rfl
          refine va_calli (va_runV (As := []) (rest := []) ⟨hx, hb, hml, hown, ht⟩ (k_X15_thrown_v1 l D g z0 _ a) (cwV 0 ht (gV w_772 w_774 w_775 w_334 w_773) rfl rfl rfl (by decide +kernel) (le2 rfl rfl)) ⟨PP.blind, va_recv hK.1 hP (ci := 21) (q0 := 1) rfl rfl, PP.mk' hK hZ hz hAz hS hPc hDc⟩ rfl rfl hl.1 rfl (lv_room (Nat.le_of_ble_eq_true rfl)) dL_law_3288 (le2 rfl rfl)) hS (fun q _ h => hFc q h) hFc (fun r u t H locs ht1 hvm hw hB hz1 hk1 hS => ?_)
          obtain ⟨rfl, hw⟩ := hw
          obtain ⟨hP1, hD1⟩ := hB
          rw [ht1] at hP1
          obtain ⟨hP, hD⟩ := va_join (wr := [(o1, .inl (g 1, 1, .inr (.inl (fun _ => 0))))]) (w1 := [((a 200), .inr (21, [.int 2, .ref (a 201), .ref (a 202), .ref (a 203), .ref (a 204), .ref (a 205), .ref (a 206), .int 0, .int 0, .int 0, .int 0, .ref (a 208), .ref (a 209), .ref (a 210), .ref (a 211), .ref (a 212), .int 4, .int 12, .int (-1), .int 0, .ref (g 200), .ref (a 213), .int 0, .int 97, .ref (a 214), .ref (a 215), .ref (a 207), .null, .int 0]))]) hP hD [1] [0] rfl rfl (by decide) (by decide) hk1 hFc hP1 hD1
          have hP : va_P D vwCl [(o1, .inl (g 1, 1, .inr (.inl (fun _ => 0)))), ((a 200), .inr (21, [.int 2, .ref (a 201), .ref (a 202), .ref (a 203), .ref (a 204), .ref (a 205), .ref (a 206), .int 0, .int 0, .int 0, .int 0, .ref (a 208), .ref (a 209), .ref (a 210), .ref (a 211), .ref (a 212), .int 4, .int 12, .int (-1), .int 0, .ref (g 200), .ref (a 213), .int 0, .int 97, .ref (a 214), .ref (a 215), .ref (a 207), .null, .int 0]))] H := hP
          have hD : va_D (va_A [] s.heap.size) [(o1, .inl (g 1, 1, .inr (.inl (fun _ => 0)))), ((a 200), .inr (21, [.int 2, .ref (a 201), .ref (a 202), .ref (a 203), .ref (a 204), .ref (a 205), .ref (a 206), .int 0, .int 0, .int 0, .int 0, .ref (a 208), .ref (a 209), .ref (a 210), .ref (a 211), .ref (a 212), .int 4, .int 12, .int (-1), .int 0, .ref (g 200), .ref (a 213), .int 0, .int 97, .ref (a 214), .ref (a 215), .ref (a 207), .null, .int 0]))] := hD
          refine lv_iload hx hb dL_law_3291 (lv_at hl 1 rfl) ?_
          refine lv_icmp_eq (tgt := 3298) hx hb dL_law_3293 (by decide) (fun c_7351 => ?_) (fun c_7351 => ?_)
          · refine lv_iload hx hb dL_law_3298 (lv_at hl 1 rfl) ?_
            refine lv_if_ne (tgt := 3322) hx hb dL_law_3300 (by decide) (fun c_7352 => ?_) (fun c_7352 => ?_)
            · refine lv_goto (tgt := 4264) hx hb dL_law_3322 (by decide) ?_
              refine W.widen (k := 200 + 300) (n := 8000 + 2000) (Nat.le_of_ble_eq_true rfl) (Nat.le_of_ble_eq_true rfl) ?_
              exact kk _ _ _ hS (lv_sub hl [7, 2] rfl)
            · exact absurd c_7352 (by decide)
          · exact absurd c_7351 (by decide)
        · obtain ⟨c_7353, c_7354, c_7355, c_7356, c_7357, c_7358, c_7359, c_7360⟩ := hw
          exact absurd c_7353 c_7107
    · obtain ⟨c_7361, c_7362, c_7363, c_7364, c_7365, c_7366, c_7367, c_7368, c_7369⟩ := hw
      obtain ⟨hP1, hD1⟩ := hB
      rw [ht1] at hP1
      obtain ⟨hP, hD⟩ := va_join (wr := [((a 200), f_m a g)]) (w1 := [(o1, .inl (g 1, 1, .inr (.inl (fun _ => 0))))]) hP hD [3, 0, 1] [2] rfl rfl (by decide) (by decide) hk1 hFc hP1 hD1
      have hP : va_P D vwCl [((a 200), f_m a g), (o1, .inl (g 1, 1, .inr (.inl (fun _ => 0))))] H := hP
      have hD : va_D (va_A [] s.heap.size) [((a 200), f_m a g), (o1, .inl (g 1, 1, .inr (.inl (fun _ => 0))))] := hD
      refine lv_istore (lv' := [(6, .int 2), (0, .ref b), (1, .ref (a 0)), (2, .ref (a 200)), (3, .ref o1), (4, .ref o2), (5, .int 0)]) hx hb dL_law_3248 hl (by decide) rfl (fun ls hl => ?_)
      refine lv_aload_n hx hb dL_law_3250 rfl (lv_at hl 3 rfl) ?_
      refine lv_aload_n hx hb dL_law_3251 rfl (lv_at hl 1 rfl) ?_
      refine lv_iload hx hb dL_law_3252 (lv_at hl 6 rfl) ?_
      refine lv_iconst (v := 1) hx hb dL_law_3254 (by decide) ?_
      refine lv_iadd hx hb dL_law_3255 ?_
      refine r_topi (v := 1) (by decide) ?_
      refine va_sld hx hb hX hbl hbA hS (by unfold vp_in; decide) dL_law_3256 ?_
      refine r_topi (v := xs 1) (congrArg xs (by decide)) ?_
      refine lv_i2c (v := ((xs 1).toUInt32 % 65536).toInt32) hx hb dL_law_3257 rfl ?_
      refine lv_aload_n hx hb dL_law_3258 rfl (lv_at hl 1 rfl) ?_
      refine lv_iload hx hb dL_law_3259 (lv_at hl 6 rfl) ?_
      refine lv_iconst (v := 2) hx hb dL_law_3261 (by decide) ?_
      refine lv_iadd hx hb dL_law_3262 ?_
      refine r_topi (v := 2) (by decide) ?_
      refine va_sld hx hb hX hbl hbA hS (by unfold vp_in; decide) dL_law_3263 ?_
      refine r_topi (v := xs 2) (congrArg xs (by decide)) ?_
      refine lv_aload_n hx hb dL_law_3264 rfl (lv_at hl 1 rfl) ?_
      refine lv_iload hx hb dL_law_3265 (lv_at hl 6 rfl) ?_
      refine lv_iconst (v := 3) hx hb dL_law_3267 (by decide) ?_
      refine lv_iadd hx hb dL_law_3268 ?_
      refine r_topi (v := 3) (by decide) ?_
      refine va_sld hx hb hX hbl hbA hS (by unfold vp_in; decide) dL_law_3269 ?_
      refine r_topi (v := xs 3) (congrArg xs (by decide)) ?_
      refine lv_aload_n hx hb dL_law_3270 rfl (lv_at hl 1 rfl) ?_
      refine lv_iload hx hb dL_law_3271 (lv_at hl 6 rfl) ?_
      refine lv_iconst (v := 4) hx hb dL_law_3273 (by decide) ?_
      refine lv_iadd hx hb dL_law_3274 ?_
      refine r_topi (v := 4) (by decide) ?_
      refine va_sld hx hb hX hbl hbA hS (by unfold vp_in; decide) dL_law_3275 ?_
      refine r_topi (v := xs 4) (congrArg xs (by decide)) ?_
      refine lv_aload_n hx hb dL_law_3276 rfl (lv_at hl 1 rfl) ?_
      refine lv_iload hx hb dL_law_3277 (lv_at hl 6 rfl) ?_
      refine lv_iconst (v := 5) hx hb dL_law_3279 (by decide) ?_
      refine lv_iadd hx hb dL_law_3280 ?_
      refine r_topi (v := 5) (by decide) ?_
      refine va_sld hx hb hX hbl hbA hS (by unfold vp_in; decide) dL_law_3281 ?_
      refine r_topi (v := xs 5) (congrArg xs (by decide)) ?_
      have hPc : va_P D vwCl [((a 200), f_m a g)] _ := hP.sub (ws' := [((a 200), f_m a g)]) [0] rfl
      have hDc : va_D (fun q => z0 ≤ q) [((a 200), f_m a g)] := (hD.to hAz).pick (ws' := [((a 200), f_m a g)]) [0] (by decide) rfl
      have hFc := va_free (wc := [((a 200), f_m a g)]) hD hS hA [0] rfl
      refine va_calli (va_runV (As := [.int (((xs 1).toUInt32 % 65536).toInt32), .int (xs 2), .int (xs 3), .int (xs 4), .int (xs 5)]) (rest := []) ⟨hx, hb, hml, hown, ht⟩ (k_X15_marchFinds l D g z0 _ a (((xs 1).toUInt32 % 65536).toInt32) (xs 2) (xs 3) (xs 4) (xs 5) (isC_i2c _)) (cwV 5 ht (gV w_1231 w_1233 w_1234 w_334 w_1232) rfl rfl rfl (by decide +kernel) (le2 rfl rfl)) ⟨PP.blind, va_recv hK.1 hP (ci := 21) (q0 := 0) rfl rfl, PP.mk' hK hZ hz hAz hS hPc hDc⟩ rfl rfl hl.1 rfl (lv_room (Nat.le_of_ble_eq_true rfl)) dL_law_3282 (le2 rfl rfl)) hS (fun q _ h => hFc q h) hFc (fun r u t H locs ht1 hvm hw hB hz1 hk1 hS => ?_)
      rcases hw with hw | hw
      · obtain ⟨rfl, rfl, hw⟩ := hw
        rcases hw with hw | hw | hw | hw | hw | hw | hw | hw | hw | hw | hw | hw | hw | hw | hw | hw | hw | hw | hw | hw | hw | hw | hw | hw | hw | hw | hw | hw | hw | hw | hw | hw
        · obtain ⟨c_7370, c_7371, c_7372, c_7373, c_7374⟩ := hw
          exact absurd c_7362 c_7371
        · obtain ⟨c_7375, c_7376, c_7377, c_7378, c_7379⟩ := hw
          exact absurd c_7362 c_7376
        · obtain ⟨c_7380, c_7381, c_7382, c_7383, c_7384⟩ := hw
          exact absurd c_7362 c_7381
        · obtain ⟨c_7385, c_7386, c_7387, c_7388⟩ := hw
          exact absurd (c_7362.symm.trans c_7385) (by decide)
        · obtain ⟨c_7389, c_7390, c_7391, c_7392, c_7393⟩ := hw
          exact absurd (c_7362.symm.trans c_7389) (by decide)
        · obtain ⟨c_7394, c_7395, c_7396, c_7397, c_7398, c_7399⟩ := hw
          exact absurd (c_7362.symm.trans c_7394) (by decide)
        · obtain ⟨c_7400, c_7401, c_7402, c_7403, c_7404, c_7405, c_7406⟩ := hw
          exact absurd (c_7362.symm.trans c_7400) (by decide)
        · obtain ⟨c_7407, c_7408, c_7409, c_7410, c_7411, c_7412, c_7413, c_7414⟩ := hw
          exact absurd (c_7362.symm.trans c_7407) (by decide)
        · obtain ⟨c_7415, c_7416, c_7417⟩ := hw
          exact absurd (c_7362.symm.trans c_7415) (by decide)
        · obtain ⟨c_7418, c_7419, c_7420, c_7421⟩ := hw
          exact absurd (c_7362.symm.trans c_7418) (by decide)
        · obtain ⟨c_7422, c_7423, c_7424, c_7425, c_7426⟩ := hw
          exact absurd (c_7362.symm.trans c_7422) (by decide)
        · obtain ⟨c_7427, c_7428, c_7429, c_7430, c_7431, c_7432⟩ := hw
          exact absurd (c_7362.symm.trans c_7427) (by decide)
        · obtain ⟨c_7433, c_7434, c_7435, c_7436, c_7437, c_7438, c_7439⟩ := hw
          exact absurd (c_7362.symm.trans c_7433) (by decide)
        · obtain ⟨c_7440, c_7441, c_7442, c_7443, c_7444, c_7445, c_7446, c_7447, c_7448⟩ := hw
          exact absurd (c_7362.symm.trans c_7440) (by decide)
        · obtain ⟨c_7449, c_7450, c_7451, c_7452, c_7453, c_7454, c_7455, c_7456, c_7457, c_7458⟩ := hw
          exact absurd (c_7362.symm.trans c_7449) (by decide)
        · obtain ⟨c_7459, c_7460⟩ := hw
          exact absurd (c_7362.symm.trans c_7459) (by decide)
        · obtain ⟨c_7461, c_7462, c_7463⟩ := hw
          exact absurd (c_7362.symm.trans c_7461) (by decide)
        · obtain ⟨c_7464, c_7465, c_7466, c_7467⟩ := hw
          exact absurd (c_7362.symm.trans c_7464) (by decide)
        · obtain ⟨c_7468, c_7469, c_7470, c_7471, c_7472⟩ := hw
          exact absurd (c_7362.symm.trans c_7468) (by decide)
        · obtain ⟨c_7473, c_7474, c_7475, c_7476, c_7477, c_7478⟩ := hw
          exact absurd (c_7362.symm.trans c_7473) (by decide)
        · obtain ⟨c_7479, c_7480, c_7481, c_7482, c_7483, c_7484, c_7485, c_7486⟩ := hw
          exact absurd (c_7362.symm.trans c_7479) (by decide)
        · obtain ⟨c_7487, c_7488, c_7489, c_7490, c_7491, c_7492, c_7493, c_7494, c_7495⟩ := hw
          exact absurd (c_7362.symm.trans c_7487) (by decide)
        · obtain ⟨c_7496, c_7497, c_7498, c_7499, c_7500, c_7501, c_7502, c_7503, c_7504, c_7505⟩ := hw
          exact absurd (c_7362.symm.trans c_7496) (by decide)
        · obtain ⟨c_7506, c_7507, c_7508, c_7509, c_7510, c_7511, c_7512, c_7513, c_7514, c_7515, c_7516⟩ := hw
          exact absurd (c_7362.symm.trans c_7506) (by decide)
        · obtain ⟨c_7517, c_7518, c_7519, c_7520, c_7521⟩ := hw
          exact absurd c_7521 c_7363
        · obtain ⟨c_7522, c_7523, c_7524, c_7525, c_7526, c_7527⟩ := hw
          exact absurd (Int.le_trans (lo_lt c_7527) (up_lt c_7364)) (by decide)
        · obtain ⟨c_7528, c_7529, c_7530, c_7531, c_7532, c_7533, c_7534⟩ := hw
          exact absurd (c_7369 ▸ c_7534) (by decide)
        · obtain ⟨c_7535, c_7536, c_7537, c_7538, c_7539, c_7540, c_7541, c_7542⟩ := hw
          exact absurd (c_7369 ▸ c_7542) (by decide)
        · obtain ⟨c_7543, c_7544, c_7545, c_7546, c_7547⟩ := hw
          exact absurd c_7543 c_7361
        · obtain ⟨c_7548, c_7549, c_7550, c_7551, c_7552, c_7553⟩ := hw
          exact absurd c_7548 c_7361
        · obtain ⟨c_7554, c_7555, c_7556, c_7557, c_7558, c_7559, c_7560⟩ := hw
          exact absurd c_7554 c_7361
        · obtain ⟨c_7561, c_7562, c_7563, c_7564, c_7565, c_7566, c_7567, c_7568⟩ := hw
          exact absurd c_7561 c_7361
      · obtain ⟨rfl, rfl, hw⟩ := hw
        rcases hw with hw | hw | hw | hw | hw
        · obtain ⟨c_7569, c_7570, c_7571, c_7572, c_7573, c_7574, c_7575, c_7576⟩ := hw
          exact absurd (c_7362.symm.trans c_7569) (by decide)
        · obtain ⟨c_7577, c_7578, c_7579, c_7580, c_7581, c_7582, c_7583, c_7584, c_7585, c_7586⟩ := hw
          exact absurd (c_7362.symm.trans c_7577) (by decide)
        · obtain ⟨c_7587, c_7588, c_7589, c_7590, c_7591, c_7592, c_7593, c_7594, c_7595, c_7596, c_7597⟩ := hw
          exact absurd (c_7362.symm.trans c_7587) (by decide)
        · obtain ⟨c_7598, c_7599, c_7600, c_7601, c_7602, c_7603, c_7604, c_7605⟩ := hw
          obtain ⟨hP1, hD1⟩ := hB
          rw [ht1] at hP1
          obtain ⟨hP, hD⟩ := va_join (wr := [(o1, .inl (g 1, 1, .inr (.inl (fun _ => 0))))]) (w1 := [((a 200), .inr (21, [.int 2, .ref (a 201), .ref (a 202), .ref (a 203), .ref (a 204), .ref (a 205), .ref (a 206), .int 0, .int 0, .int 0, .int 0, .ref (a 208), .ref (a 209), .ref (a 210), .ref (a 211), .ref (a 212), .int 4, .int 12, .int (-1), .int 0, .ref (g 200), .ref (a 213), .int 0, .int 97, .ref (a 214), .ref (a 215), .ref (a 207), .null, .int 0]))]) hP hD [0] [1] rfl rfl (by decide) (by decide) hk1 hFc hP1 hD1
          have hP : va_P D vwCl [(o1, .inl (g 1, 1, .inr (.inl (fun _ => 0)))), ((a 200), .inr (21, [.int 2, .ref (a 201), .ref (a 202), .ref (a 203), .ref (a 204), .ref (a 205), .ref (a 206), .int 0, .int 0, .int 0, .int 0, .ref (a 208), .ref (a 209), .ref (a 210), .ref (a 211), .ref (a 212), .int 4, .int 12, .int (-1), .int 0, .ref (g 200), .ref (a 213), .int 0, .int 97, .ref (a 214), .ref (a 215), .ref (a 207), .null, .int 0]))] H := hP
          have hD : va_D (va_A [] s.heap.size) [(o1, .inl (g 1, 1, .inr (.inl (fun _ => 0)))), ((a 200), .inr (21, [.int 2, .ref (a 201), .ref (a 202), .ref (a 203), .ref (a 204), .ref (a 205), .ref (a 206), .int 0, .int 0, .int 0, .int 0, .ref (a 208), .ref (a 209), .ref (a 210), .ref (a 211), .ref (a 212), .int 4, .int 12, .int (-1), .int 0, .ref (g 200), .ref (a 213), .int 0, .int 97, .ref (a 214), .ref (a 215), .ref (a 207), .null, .int 0]))] := hD
          refine lv_istore (lv' := [(7, .int 0), (6, .int 2), (0, .ref b), (1, .ref (a 0)), (2, .ref (a 200)), (3, .ref o1), (4, .ref o2), (5, .int 0)]) hx hb dL_law_3285 hl (by decide) rfl (fun ls hl => ?_)
          refine lv_aload_n hx hb dL_law_3287 rfl (lv_at hl 4 rfl) ?_
          have hPc : va_P D vwCl [((a 200), .inr (21, [.int 2, .ref (a 201), .ref (a 202), .ref (a 203), .ref (a 204), .ref (a 205), .ref (a 206), .int 0, .int 0, .int 0, .int 0, .ref (a 208), .ref (a 209), .ref (a 210), .ref (a 211), .ref (a 212), .int 4, .int 12, .int (-1), .int 0, .ref (g 200), .ref (a 213), .int 0, .int 97, .ref (a 214), .ref (a 215), .ref (a 207), .null, .int 0]))] _ := hP.sub (ws' := [((a 200), .inr (21, [.int 2, .ref (a 201), .ref (a 202), .ref (a 203), .ref (a 204), .ref (a 205), .ref (a 206), .int 0, .int 0, .int 0, .int 0, .ref (a 208), .ref (a 209), .ref (a 210), .ref (a 211), .ref (a 212), .int 4, .int 12, .int (-1), .int 0, .ref (g 200), .ref (a 213), .int 0, .int 97, .ref (a 214), .ref (a 215), .ref (a 207), .null, .int 0]))]) [1] rfl
          have hDc : va_D (fun q => z0 ≤ q) [((a 200), .inr (21, [.int 2, .ref (a 201), .ref (a 202), .ref (a 203), .ref (a 204), .ref (a 205), .ref (a 206), .int 0, .int 0, .int 0, .int 0, .ref (a 208), .ref (a 209), .ref (a 210), .ref (a 211), .ref (a 212), .int 4, .int 12, .int (-1), .int 0, .ref (g 200), .ref (a 213), .int 0, .int 97, .ref (a 214), .ref (a 215), .ref (a 207), .null, .int 0]))] := (hD.to hAz).pick (ws' := [((a 200), .inr (21, [.int 2, .ref (a 201), .ref (a 202), .ref (a 203), .ref (a 204), .ref (a 205), .ref (a 206), .int 0, .int 0, .int 0, .int 0, .ref (a 208), .ref (a 209), .ref (a 210), .ref (a 211), .ref (a 212), .int 4, .int 12, .int (-1), .int 0, .ref (g 200), .ref (a 213), .int 0, .int 97, .ref (a 214), .ref (a 215), .ref (a 207), .null, .int 0]))]) [1] (by decide) rfl
          have hFc := va_free (wc := [((a 200), .inr (21, [.int 2, .ref (a 201), .ref (a 202), .ref (a 203), .ref (a 204), .ref (a 205), .ref (a 206), .int 0, .int 0, .int 0, .int 0, .ref (a 208), .ref (a 209), .ref (a 210), .ref (a 211), .ref (a 212), .int 4, .int 12, .int (-1), .int 0, .ref (g 200), .ref (a 213), .int 0, .int 97, .ref (a 214), .ref (a 215), .ref (a 207), .null, .int 0]))]) hD hS hA [1] rfl
          refine va_calli (va_runV (As := []) (rest := []) ⟨hx, hb, hml, hown, ht⟩ (k_X15_thrown_v1 l D g z0 _ a) (cwV 0 ht (gV w_772 w_774 w_775 w_334 w_773) rfl rfl rfl (by decide +kernel) (le2 rfl rfl)) ⟨PP.blind, va_recv hK.1 hP (ci := 21) (q0 := 1) rfl rfl, PP.mk' hK hZ hz hAz hS hPc hDc⟩ rfl rfl hl.1 rfl (lv_room (Nat.le_of_ble_eq_true rfl)) dL_law_3288 (le2 rfl rfl)) hS (fun q _ h => hFc q h) hFc (fun r u t H locs ht1 hvm hw hB hz1 hk1 hS => ?_)
          obtain ⟨rfl, hw⟩ := hw
          obtain ⟨hP1, hD1⟩ := hB
          rw [ht1] at hP1
          obtain ⟨hP, hD⟩ := va_join (wr := [(o1, .inl (g 1, 1, .inr (.inl (fun _ => 0))))]) (w1 := [((a 200), .inr (21, [.int 2, .ref (a 201), .ref (a 202), .ref (a 203), .ref (a 204), .ref (a 205), .ref (a 206), .int 0, .int 0, .int 0, .int 0, .ref (a 208), .ref (a 209), .ref (a 210), .ref (a 211), .ref (a 212), .int 4, .int 12, .int (-1), .int 0, .ref (g 200), .ref (a 213), .int 0, .int 97, .ref (a 214), .ref (a 215), .ref (a 207), .null, .int 0]))]) hP hD [1] [0] rfl rfl (by decide) (by decide) hk1 hFc hP1 hD1
          have hP : va_P D vwCl [(o1, .inl (g 1, 1, .inr (.inl (fun _ => 0)))), ((a 200), .inr (21, [.int 2, .ref (a 201), .ref (a 202), .ref (a 203), .ref (a 204), .ref (a 205), .ref (a 206), .int 0, .int 0, .int 0, .int 0, .ref (a 208), .ref (a 209), .ref (a 210), .ref (a 211), .ref (a 212), .int 4, .int 12, .int (-1), .int 0, .ref (g 200), .ref (a 213), .int 0, .int 97, .ref (a 214), .ref (a 215), .ref (a 207), .null, .int 0]))] H := hP
          have hD : va_D (va_A [] s.heap.size) [(o1, .inl (g 1, 1, .inr (.inl (fun _ => 0)))), ((a 200), .inr (21, [.int 2, .ref (a 201), .ref (a 202), .ref (a 203), .ref (a 204), .ref (a 205), .ref (a 206), .int 0, .int 0, .int 0, .int 0, .ref (a 208), .ref (a 209), .ref (a 210), .ref (a 211), .ref (a 212), .int 4, .int 12, .int (-1), .int 0, .ref (g 200), .ref (a 213), .int 0, .int 97, .ref (a 214), .ref (a 215), .ref (a 207), .null, .int 0]))] := hD
          refine lv_iload hx hb dL_law_3291 (lv_at hl 1 rfl) ?_
          refine lv_icmp_eq (tgt := 3298) hx hb dL_law_3293 (by decide) (fun c_7606 => ?_) (fun c_7606 => ?_)
          · refine lv_iload hx hb dL_law_3298 (lv_at hl 1 rfl) ?_
            refine lv_if_ne (tgt := 3322) hx hb dL_law_3300 (by decide) (fun c_7607 => ?_) (fun c_7607 => ?_)
            · refine lv_goto (tgt := 4264) hx hb dL_law_3322 (by decide) ?_
              refine W.widen (k := 200 + 300) (n := 8000 + 2000) (Nat.le_of_ble_eq_true rfl) (Nat.le_of_ble_eq_true rfl) ?_
              exact kk _ _ _ hS (lv_sub hl [7, 2] rfl)
            · exact absurd c_7607 (by decide)
          · exact absurd c_7606 (by decide)
        · obtain ⟨c_7608, c_7609, c_7610, c_7611, c_7612, c_7613, c_7614, c_7615⟩ := hw
          exact absurd c_7608 c_7361
    · obtain ⟨c_7616, c_7617, c_7618, c_7619, c_7620, c_7621, c_7622, c_7623, c_7624, c_7625, c_7626⟩ := hw
      obtain ⟨hP1, hD1⟩ := hB
      rw [ht1] at hP1
      obtain ⟨hP, hD⟩ := va_join (wr := [((a 200), f_m a g)]) (w1 := [(o1, .inl (g 1, 1, .inr (.inl (fun _ => 0))))]) hP hD [3, 0, 1] [2] rfl rfl (by decide) (by decide) hk1 hFc hP1 hD1
      have hP : va_P D vwCl [((a 200), f_m a g), (o1, .inl (g 1, 1, .inr (.inl (fun _ => 0))))] H := hP
      have hD : va_D (va_A [] s.heap.size) [((a 200), f_m a g), (o1, .inl (g 1, 1, .inr (.inl (fun _ => 0))))] := hD
      refine lv_istore (lv' := [(6, .int 2), (0, .ref b), (1, .ref (a 0)), (2, .ref (a 200)), (3, .ref o1), (4, .ref o2), (5, .int 0)]) hx hb dL_law_3248 hl (by decide) rfl (fun ls hl => ?_)
      refine lv_aload_n hx hb dL_law_3250 rfl (lv_at hl 3 rfl) ?_
      refine lv_aload_n hx hb dL_law_3251 rfl (lv_at hl 1 rfl) ?_
      refine lv_iload hx hb dL_law_3252 (lv_at hl 6 rfl) ?_
      refine lv_iconst (v := 1) hx hb dL_law_3254 (by decide) ?_
      refine lv_iadd hx hb dL_law_3255 ?_
      refine r_topi (v := 1) (by decide) ?_
      refine va_sld hx hb hX hbl hbA hS (by unfold vp_in; decide) dL_law_3256 ?_
      refine r_topi (v := xs 1) (congrArg xs (by decide)) ?_
      refine lv_i2c (v := ((xs 1).toUInt32 % 65536).toInt32) hx hb dL_law_3257 rfl ?_
      refine lv_aload_n hx hb dL_law_3258 rfl (lv_at hl 1 rfl) ?_
      refine lv_iload hx hb dL_law_3259 (lv_at hl 6 rfl) ?_
      refine lv_iconst (v := 2) hx hb dL_law_3261 (by decide) ?_
      refine lv_iadd hx hb dL_law_3262 ?_
      refine r_topi (v := 2) (by decide) ?_
      refine va_sld hx hb hX hbl hbA hS (by unfold vp_in; decide) dL_law_3263 ?_
      refine r_topi (v := xs 2) (congrArg xs (by decide)) ?_
      refine lv_aload_n hx hb dL_law_3264 rfl (lv_at hl 1 rfl) ?_
      refine lv_iload hx hb dL_law_3265 (lv_at hl 6 rfl) ?_
      refine lv_iconst (v := 3) hx hb dL_law_3267 (by decide) ?_
      refine lv_iadd hx hb dL_law_3268 ?_
      refine r_topi (v := 3) (by decide) ?_
      refine va_sld hx hb hX hbl hbA hS (by unfold vp_in; decide) dL_law_3269 ?_
      refine r_topi (v := xs 3) (congrArg xs (by decide)) ?_
      refine lv_aload_n hx hb dL_law_3270 rfl (lv_at hl 1 rfl) ?_
      refine lv_iload hx hb dL_law_3271 (lv_at hl 6 rfl) ?_
      refine lv_iconst (v := 4) hx hb dL_law_3273 (by decide) ?_
      refine lv_iadd hx hb dL_law_3274 ?_
      refine r_topi (v := 4) (by decide) ?_
      refine va_sld hx hb hX hbl hbA hS (by unfold vp_in; decide) dL_law_3275 ?_
      refine r_topi (v := xs 4) (congrArg xs (by decide)) ?_
      refine lv_aload_n hx hb dL_law_3276 rfl (lv_at hl 1 rfl) ?_
      refine lv_iload hx hb dL_law_3277 (lv_at hl 6 rfl) ?_
      refine lv_iconst (v := 5) hx hb dL_law_3279 (by decide) ?_
      refine lv_iadd hx hb dL_law_3280 ?_
      refine r_topi (v := 5) (by decide) ?_
      refine va_sld hx hb hX hbl hbA hS (by unfold vp_in; decide) dL_law_3281 ?_
      refine r_topi (v := xs 5) (congrArg xs (by decide)) ?_
      have hPc : va_P D vwCl [((a 200), f_m a g)] _ := hP.sub (ws' := [((a 200), f_m a g)]) [0] rfl
      have hDc : va_D (fun q => z0 ≤ q) [((a 200), f_m a g)] := (hD.to hAz).pick (ws' := [((a 200), f_m a g)]) [0] (by decide) rfl
      have hFc := va_free (wc := [((a 200), f_m a g)]) hD hS hA [0] rfl
      refine va_calli (va_runV (As := [.int (((xs 1).toUInt32 % 65536).toInt32), .int (xs 2), .int (xs 3), .int (xs 4), .int (xs 5)]) (rest := []) ⟨hx, hb, hml, hown, ht⟩ (k_X15_marchFinds l D g z0 _ a (((xs 1).toUInt32 % 65536).toInt32) (xs 2) (xs 3) (xs 4) (xs 5) (isC_i2c _)) (cwV 5 ht (gV w_1231 w_1233 w_1234 w_334 w_1232) rfl rfl rfl (by decide +kernel) (le2 rfl rfl)) ⟨PP.blind, va_recv hK.1 hP (ci := 21) (q0 := 0) rfl rfl, PP.mk' hK hZ hz hAz hS hPc hDc⟩ rfl rfl hl.1 rfl (lv_room (Nat.le_of_ble_eq_true rfl)) dL_law_3282 (le2 rfl rfl)) hS (fun q _ h => hFc q h) hFc (fun r u t H locs ht1 hvm hw hB hz1 hk1 hS => ?_)
      rcases hw with hw | hw
      · obtain ⟨rfl, rfl, hw⟩ := hw
        rcases hw with hw | hw | hw | hw | hw | hw | hw | hw | hw | hw | hw | hw | hw | hw | hw | hw | hw | hw | hw | hw | hw | hw | hw | hw | hw | hw | hw | hw | hw | hw | hw | hw
        · obtain ⟨c_7627, c_7628, c_7629, c_7630, c_7631⟩ := hw
          exact absurd c_7618 c_7629
        · obtain ⟨c_7632, c_7633, c_7634, c_7635, c_7636⟩ := hw
          exact absurd c_7618 c_7634
        · obtain ⟨c_7637, c_7638, c_7639, c_7640, c_7641⟩ := hw
          exact absurd c_7618 c_7639
        · obtain ⟨c_7642, c_7643, c_7644, c_7645⟩ := hw
          exact absurd (c_7618.symm.trans c_7642) (by decide)
        · obtain ⟨c_7646, c_7647, c_7648, c_7649, c_7650⟩ := hw
          exact absurd (c_7618.symm.trans c_7646) (by decide)
        · obtain ⟨c_7651, c_7652, c_7653, c_7654, c_7655, c_7656⟩ := hw
          exact absurd (c_7618.symm.trans c_7651) (by decide)
        · obtain ⟨c_7657, c_7658, c_7659, c_7660, c_7661, c_7662, c_7663⟩ := hw
          exact absurd (c_7618.symm.trans c_7657) (by decide)
        · obtain ⟨c_7664, c_7665, c_7666, c_7667, c_7668, c_7669, c_7670, c_7671⟩ := hw
          exact absurd (c_7618.symm.trans c_7664) (by decide)
        · obtain ⟨c_7672, c_7673, c_7674⟩ := hw
          exact absurd (c_7618.symm.trans c_7672) (by decide)
        · obtain ⟨c_7675, c_7676, c_7677, c_7678⟩ := hw
          exact absurd (c_7618.symm.trans c_7675) (by decide)
        · obtain ⟨c_7679, c_7680, c_7681, c_7682, c_7683⟩ := hw
          exact absurd (c_7618.symm.trans c_7679) (by decide)
        · obtain ⟨c_7684, c_7685, c_7686, c_7687, c_7688, c_7689⟩ := hw
          exact absurd (c_7618.symm.trans c_7684) (by decide)
        · obtain ⟨c_7690, c_7691, c_7692, c_7693, c_7694, c_7695, c_7696⟩ := hw
          exact absurd (c_7618.symm.trans c_7690) (by decide)
        · obtain ⟨c_7697, c_7698, c_7699, c_7700, c_7701, c_7702, c_7703, c_7704, c_7705⟩ := hw
          exact absurd (c_7618.symm.trans c_7697) (by decide)
        · obtain ⟨c_7706, c_7707, c_7708, c_7709, c_7710, c_7711, c_7712, c_7713, c_7714, c_7715⟩ := hw
          exact absurd (c_7618.symm.trans c_7706) (by decide)
        · obtain ⟨c_7716, c_7717⟩ := hw
          exact absurd c_7717 c_7619
        · obtain ⟨c_7718, c_7719, c_7720⟩ := hw
          exact absurd (Int.le_trans (lo_lt c_7720) (up_lt c_7620)) (by decide)
        · obtain ⟨c_7721, c_7722, c_7723, c_7724⟩ := hw
          exact absurd c_7724 c_7621
        · obtain ⟨c_7725, c_7726, c_7727, c_7728, c_7729⟩ := hw
          exact absurd (Int.le_trans (lo_lt c_7729) (up_nle c_7622)) (by decide)
        · obtain ⟨c_7730, c_7731, c_7732, c_7733, c_7734, c_7735⟩ := hw
          exact absurd c_7735 c_7623
        · obtain ⟨c_7736, c_7737, c_7738, c_7739, c_7740, c_7741, c_7742, c_7743⟩ := hw
          exact absurd (c_7625 ▸ c_7743) (by decide)
        · obtain ⟨c_7744, c_7745, c_7746, c_7747, c_7748, c_7749, c_7750, c_7751, c_7752⟩ := hw
          exact absurd (c_7625 ▸ c_7752) (by decide)
        · obtain ⟨c_7753, c_7754, c_7755, c_7756, c_7757, c_7758, c_7759, c_7760, c_7761, c_7762⟩ := hw
          exact absurd (c_7626 ▸ c_7762) (by decide)
        · obtain ⟨c_7763, c_7764, c_7765, c_7766, c_7767, c_7768, c_7769, c_7770, c_7771, c_7772, c_7773⟩ := hw
          exact absurd (c_7626 ▸ c_7773) (by decide)
        · obtain ⟨c_7774, c_7775, c_7776, c_7777, c_7778⟩ := hw
          exact absurd c_7774 c_7617
        · obtain ⟨c_7779, c_7780, c_7781, c_7782, c_7783, c_7784⟩ := hw
          exact absurd c_7779 c_7617
        · obtain ⟨c_7785, c_7786, c_7787, c_7788, c_7789, c_7790, c_7791⟩ := hw
          exact absurd c_7785 c_7617
        · obtain ⟨c_7792, c_7793, c_7794, c_7795, c_7796, c_7797, c_7798, c_7799⟩ := hw
          exact absurd c_7792 c_7617
        · obtain ⟨c_7800, c_7801, c_7802, c_7803, c_7804⟩ := hw
          exact absurd c_7800 c_7616
        · obtain ⟨c_7805, c_7806, c_7807, c_7808, c_7809, c_7810⟩ := hw
          exact absurd c_7805 c_7616
        · obtain ⟨c_7811, c_7812, c_7813, c_7814, c_7815, c_7816, c_7817⟩ := hw
          exact absurd c_7811 c_7616
        · obtain ⟨c_7818, c_7819, c_7820, c_7821, c_7822, c_7823, c_7824, c_7825⟩ := hw
          exact absurd c_7818 c_7616
      · obtain ⟨rfl, rfl, hw⟩ := hw
        rcases hw with hw | hw | hw | hw | hw
        · obtain ⟨c_7826, c_7827, c_7828, c_7829, c_7830, c_7831, c_7832, c_7833⟩ := hw
          exact absurd (c_7618.symm.trans c_7826) (by decide)
        · obtain ⟨c_7834, c_7835, c_7836, c_7837, c_7838, c_7839, c_7840, c_7841, c_7842, c_7843⟩ := hw
          exact absurd (c_7618.symm.trans c_7834) (by decide)
        · obtain ⟨c_7844, c_7845, c_7846, c_7847, c_7848, c_7849, c_7850, c_7851, c_7852, c_7853, c_7854⟩ := hw
          obtain ⟨hP1, hD1⟩ := hB
          rw [ht1] at hP1
          obtain ⟨hP, hD⟩ := va_join (wr := [(o1, .inl (g 1, 1, .inr (.inl (fun _ => 0))))]) (w1 := [((a 200), .inr (21, [.int 2, .ref (a 201), .ref (a 202), .ref (a 203), .ref (a 204), .ref (a 205), .ref (a 206), .int 0, .int 0, .int 0, .int 0, .ref (a 208), .ref (a 209), .ref (a 210), .ref (a 211), .ref (a 212), .int 4, .int 12, .int (-1), .int 0, .ref (g 200), .ref (a 213), .int 0, .int 97, .ref (a 214), .ref (a 215), .ref (a 207), .null, .int 0]))]) hP hD [0] [1] rfl rfl (by decide) (by decide) hk1 hFc hP1 hD1
          have hP : va_P D vwCl [(o1, .inl (g 1, 1, .inr (.inl (fun _ => 0)))), ((a 200), .inr (21, [.int 2, .ref (a 201), .ref (a 202), .ref (a 203), .ref (a 204), .ref (a 205), .ref (a 206), .int 0, .int 0, .int 0, .int 0, .ref (a 208), .ref (a 209), .ref (a 210), .ref (a 211), .ref (a 212), .int 4, .int 12, .int (-1), .int 0, .ref (g 200), .ref (a 213), .int 0, .int 97, .ref (a 214), .ref (a 215), .ref (a 207), .null, .int 0]))] H := hP
          have hD : va_D (va_A [] s.heap.size) [(o1, .inl (g 1, 1, .inr (.inl (fun _ => 0)))), ((a 200), .inr (21, [.int 2, .ref (a 201), .ref (a 202), .ref (a 203), .ref (a 204), .ref (a 205), .ref (a 206), .int 0, .int 0, .int 0, .int 0, .ref (a 208), .ref (a 209), .ref (a 210), .ref (a 211), .ref (a 212), .int 4, .int 12, .int (-1), .int 0, .ref (g 200), .ref (a 213), .int 0, .int 97, .ref (a 214), .ref (a 215), .ref (a 207), .null, .int 0]))] := hD
          refine lv_istore (lv' := [(7, .int 0), (6, .int 2), (0, .ref b), (1, .ref (a 0)), (2, .ref (a 200)), (3, .ref o1), (4, .ref o2), (5, .int 0)]) hx hb dL_law_3285 hl (by decide) rfl (fun ls hl => ?_)
          refine lv_aload_n hx hb dL_law_3287 rfl (lv_at hl 4 rfl) ?_
          have hPc : va_P D vwCl [((a 200), .inr (21, [.int 2, .ref (a 201), .ref (a 202), .ref (a 203), .ref (a 204), .ref (a 205), .ref (a 206), .int 0, .int 0, .int 0, .int 0, .ref (a 208), .ref (a 209), .ref (a 210), .ref (a 211), .ref (a 212), .int 4, .int 12, .int (-1), .int 0, .ref (g 200), .ref (a 213), .int 0, .int 97, .ref (a 214), .ref (a 215), .ref (a 207), .null, .int 0]))] _ := hP.sub (ws' := [((a 200), .inr (21, [.int 2, .ref (a 201), .ref (a 202), .ref (a 203), .ref (a 204), .ref (a 205), .ref (a 206), .int 0, .int 0, .int 0, .int 0, .ref (a 208), .ref (a 209), .ref (a 210), .ref (a 211), .ref (a 212), .int 4, .int 12, .int (-1), .int 0, .ref (g 200), .ref (a 213), .int 0, .int 97, .ref (a 214), .ref (a 215), .ref (a 207), .null, .int 0]))]) [1] rfl
          have hDc : va_D (fun q => z0 ≤ q) [((a 200), .inr (21, [.int 2, .ref (a 201), .ref (a 202), .ref (a 203), .ref (a 204), .ref (a 205), .ref (a 206), .int 0, .int 0, .int 0, .int 0, .ref (a 208), .ref (a 209), .ref (a 210), .ref (a 211), .ref (a 212), .int 4, .int 12, .int (-1), .int 0, .ref (g 200), .ref (a 213), .int 0, .int 97, .ref (a 214), .ref (a 215), .ref (a 207), .null, .int 0]))] := (hD.to hAz).pick (ws' := [((a 200), .inr (21, [.int 2, .ref (a 201), .ref (a 202), .ref (a 203), .ref (a 204), .ref (a 205), .ref (a 206), .int 0, .int 0, .int 0, .int 0, .ref (a 208), .ref (a 209), .ref (a 210), .ref (a 211), .ref (a 212), .int 4, .int 12, .int (-1), .int 0, .ref (g 200), .ref (a 213), .int 0, .int 97, .ref (a 214), .ref (a 215), .ref (a 207), .null, .int 0]))]) [1] (by decide) rfl
          have hFc := va_free (wc := [((a 200), .inr (21, [.int 2, .ref (a 201), .ref (a 202), .ref (a 203), .ref (a 204), .ref (a 205), .ref (a 206), .int 0, .int 0, .int 0, .int 0, .ref (a 208), .ref (a 209), .ref (a 210), .ref (a 211), .ref (a 212), .int 4, .int 12, .int (-1), .int 0, .ref (g 200), .ref (a 213), .int 0, .int 97, .ref (a 214), .ref (a 215), .ref (a 207), .null, .int 0]))]) hD hS hA [1] rfl
          refine va_calli (va_runV (As := []) (rest := []) ⟨hx, hb, hml, hown, ht⟩ (k_X15_thrown_v1 l D g z0 _ a) (cwV 0 ht (gV w_772 w_774 w_775 w_334 w_773) rfl rfl rfl (by decide +kernel) (le2 rfl rfl)) ⟨PP.blind, va_recv hK.1 hP (ci := 21) (q0 := 1) rfl rfl, PP.mk' hK hZ hz hAz hS hPc hDc⟩ rfl rfl hl.1 rfl (lv_room (Nat.le_of_ble_eq_true rfl)) dL_law_3288 (le2 rfl rfl)) hS (fun q _ h => hFc q h) hFc (fun r u t H locs ht1 hvm hw hB hz1 hk1 hS => ?_)
          obtain ⟨rfl, hw⟩ := hw
          obtain ⟨hP1, hD1⟩ := hB
          rw [ht1] at hP1
          obtain ⟨hP, hD⟩ := va_join (wr := [(o1, .inl (g 1, 1, .inr (.inl (fun _ => 0))))]) (w1 := [((a 200), .inr (21, [.int 2, .ref (a 201), .ref (a 202), .ref (a 203), .ref (a 204), .ref (a 205), .ref (a 206), .int 0, .int 0, .int 0, .int 0, .ref (a 208), .ref (a 209), .ref (a 210), .ref (a 211), .ref (a 212), .int 4, .int 12, .int (-1), .int 0, .ref (g 200), .ref (a 213), .int 0, .int 97, .ref (a 214), .ref (a 215), .ref (a 207), .null, .int 0]))]) hP hD [1] [0] rfl rfl (by decide) (by decide) hk1 hFc hP1 hD1
          have hP : va_P D vwCl [(o1, .inl (g 1, 1, .inr (.inl (fun _ => 0)))), ((a 200), .inr (21, [.int 2, .ref (a 201), .ref (a 202), .ref (a 203), .ref (a 204), .ref (a 205), .ref (a 206), .int 0, .int 0, .int 0, .int 0, .ref (a 208), .ref (a 209), .ref (a 210), .ref (a 211), .ref (a 212), .int 4, .int 12, .int (-1), .int 0, .ref (g 200), .ref (a 213), .int 0, .int 97, .ref (a 214), .ref (a 215), .ref (a 207), .null, .int 0]))] H := hP
          have hD : va_D (va_A [] s.heap.size) [(o1, .inl (g 1, 1, .inr (.inl (fun _ => 0)))), ((a 200), .inr (21, [.int 2, .ref (a 201), .ref (a 202), .ref (a 203), .ref (a 204), .ref (a 205), .ref (a 206), .int 0, .int 0, .int 0, .int 0, .ref (a 208), .ref (a 209), .ref (a 210), .ref (a 211), .ref (a 212), .int 4, .int 12, .int (-1), .int 0, .ref (g 200), .ref (a 213), .int 0, .int 97, .ref (a 214), .ref (a 215), .ref (a 207), .null, .int 0]))] := hD
          refine lv_iload hx hb dL_law_3291 (lv_at hl 1 rfl) ?_
          refine lv_icmp_eq (tgt := 3298) hx hb dL_law_3293 (by decide) (fun c_7855 => ?_) (fun c_7855 => ?_)
          · refine lv_iload hx hb dL_law_3298 (lv_at hl 1 rfl) ?_
            refine lv_if_ne (tgt := 3322) hx hb dL_law_3300 (by decide) (fun c_7856 => ?_) (fun c_7856 => ?_)
            · refine lv_goto (tgt := 4264) hx hb dL_law_3322 (by decide) ?_
              refine W.widen (k := 200 + 300) (n := 8000 + 2000) (Nat.le_of_ble_eq_true rfl) (Nat.le_of_ble_eq_true rfl) ?_
              exact kk _ _ _ hS (lv_sub hl [7, 2] rfl)
            · exact absurd c_7856 (by decide)
          · exact absurd c_7855 (by decide)
        · obtain ⟨c_7857, c_7858, c_7859, c_7860, c_7861, c_7862, c_7863, c_7864⟩ := hw
          exact absurd c_7857 c_7617
        · obtain ⟨c_7865, c_7866, c_7867, c_7868, c_7869, c_7870, c_7871, c_7872⟩ := hw
          exact absurd c_7865 c_7616
    · obtain ⟨c_7873, c_7874, c_7875, c_7876, c_7877, c_7878, c_7879, c_7880, c_7881, c_7882, c_7883, c_7884⟩ := hw
      obtain ⟨hP1, hD1⟩ := hB
      rw [ht1] at hP1
      obtain ⟨hP, hD⟩ := va_join (wr := [((a 200), f_m a g)]) (w1 := [(o1, .inl (g 1, 1, .inr (.inl (fun _ => 0))))]) hP hD [3, 0, 1] [2] rfl rfl (by decide) (by decide) hk1 hFc hP1 hD1
      have hP : va_P D vwCl [((a 200), f_m a g), (o1, .inl (g 1, 1, .inr (.inl (fun _ => 0))))] H := hP
      have hD : va_D (va_A [] s.heap.size) [((a 200), f_m a g), (o1, .inl (g 1, 1, .inr (.inl (fun _ => 0))))] := hD
      refine lv_istore (lv' := [(6, .int 2), (0, .ref b), (1, .ref (a 0)), (2, .ref (a 200)), (3, .ref o1), (4, .ref o2), (5, .int 0)]) hx hb dL_law_3248 hl (by decide) rfl (fun ls hl => ?_)
      refine lv_aload_n hx hb dL_law_3250 rfl (lv_at hl 3 rfl) ?_
      refine lv_aload_n hx hb dL_law_3251 rfl (lv_at hl 1 rfl) ?_
      refine lv_iload hx hb dL_law_3252 (lv_at hl 6 rfl) ?_
      refine lv_iconst (v := 1) hx hb dL_law_3254 (by decide) ?_
      refine lv_iadd hx hb dL_law_3255 ?_
      refine r_topi (v := 1) (by decide) ?_
      refine va_sld hx hb hX hbl hbA hS (by unfold vp_in; decide) dL_law_3256 ?_
      refine r_topi (v := xs 1) (congrArg xs (by decide)) ?_
      refine lv_i2c (v := ((xs 1).toUInt32 % 65536).toInt32) hx hb dL_law_3257 rfl ?_
      refine lv_aload_n hx hb dL_law_3258 rfl (lv_at hl 1 rfl) ?_
      refine lv_iload hx hb dL_law_3259 (lv_at hl 6 rfl) ?_
      refine lv_iconst (v := 2) hx hb dL_law_3261 (by decide) ?_
      refine lv_iadd hx hb dL_law_3262 ?_
      refine r_topi (v := 2) (by decide) ?_
      refine va_sld hx hb hX hbl hbA hS (by unfold vp_in; decide) dL_law_3263 ?_
      refine r_topi (v := xs 2) (congrArg xs (by decide)) ?_
      refine lv_aload_n hx hb dL_law_3264 rfl (lv_at hl 1 rfl) ?_
      refine lv_iload hx hb dL_law_3265 (lv_at hl 6 rfl) ?_
      refine lv_iconst (v := 3) hx hb dL_law_3267 (by decide) ?_
      refine lv_iadd hx hb dL_law_3268 ?_
      refine r_topi (v := 3) (by decide) ?_
      refine va_sld hx hb hX hbl hbA hS (by unfold vp_in; decide) dL_law_3269 ?_
      refine r_topi (v := xs 3) (congrArg xs (by decide)) ?_
      refine lv_aload_n hx hb dL_law_3270 rfl (lv_at hl 1 rfl) ?_
      refine lv_iload hx hb dL_law_3271 (lv_at hl 6 rfl) ?_
      refine lv_iconst (v := 4) hx hb dL_law_3273 (by decide) ?_
      refine lv_iadd hx hb dL_law_3274 ?_
      refine r_topi (v := 4) (by decide) ?_
      refine va_sld hx hb hX hbl hbA hS (by unfold vp_in; decide) dL_law_3275 ?_
      refine r_topi (v := xs 4) (congrArg xs (by decide)) ?_
      refine lv_aload_n hx hb dL_law_3276 rfl (lv_at hl 1 rfl) ?_
      refine lv_iload hx hb dL_law_3277 (lv_at hl 6 rfl) ?_
      refine lv_iconst (v := 5) hx hb dL_law_3279 (by decide) ?_
      refine lv_iadd hx hb dL_law_3280 ?_
      refine r_topi (v := 5) (by decide) ?_
      refine va_sld hx hb hX hbl hbA hS (by unfold vp_in; decide) dL_law_3281 ?_
      refine r_topi (v := xs 5) (congrArg xs (by decide)) ?_
      have hPc : va_P D vwCl [((a 200), f_m a g)] _ := hP.sub (ws' := [((a 200), f_m a g)]) [0] rfl
      have hDc : va_D (fun q => z0 ≤ q) [((a 200), f_m a g)] := (hD.to hAz).pick (ws' := [((a 200), f_m a g)]) [0] (by decide) rfl
      have hFc := va_free (wc := [((a 200), f_m a g)]) hD hS hA [0] rfl
      refine va_calli (va_runV (As := [.int (((xs 1).toUInt32 % 65536).toInt32), .int (xs 2), .int (xs 3), .int (xs 4), .int (xs 5)]) (rest := []) ⟨hx, hb, hml, hown, ht⟩ (k_X15_marchFinds l D g z0 _ a (((xs 1).toUInt32 % 65536).toInt32) (xs 2) (xs 3) (xs 4) (xs 5) (isC_i2c _)) (cwV 5 ht (gV w_1231 w_1233 w_1234 w_334 w_1232) rfl rfl rfl (by decide +kernel) (le2 rfl rfl)) ⟨PP.blind, va_recv hK.1 hP (ci := 21) (q0 := 0) rfl rfl, PP.mk' hK hZ hz hAz hS hPc hDc⟩ rfl rfl hl.1 rfl (lv_room (Nat.le_of_ble_eq_true rfl)) dL_law_3282 (le2 rfl rfl)) hS (fun q _ h => hFc q h) hFc (fun r u t H locs ht1 hvm hw hB hz1 hk1 hS => ?_)
      rcases hw with hw | hw
      · obtain ⟨rfl, rfl, hw⟩ := hw
        rcases hw with hw | hw | hw | hw | hw | hw | hw | hw | hw | hw | hw | hw | hw | hw | hw | hw | hw | hw | hw | hw | hw | hw | hw | hw | hw | hw | hw | hw | hw | hw | hw | hw
        · obtain ⟨c_7885, c_7886, c_7887, c_7888, c_7889⟩ := hw
          exact absurd c_7875 c_7887
        · obtain ⟨c_7890, c_7891, c_7892, c_7893, c_7894⟩ := hw
          exact absurd c_7875 c_7892
        · obtain ⟨c_7895, c_7896, c_7897, c_7898, c_7899⟩ := hw
          exact absurd c_7875 c_7897
        · obtain ⟨c_7900, c_7901, c_7902, c_7903⟩ := hw
          exact absurd (c_7875.symm.trans c_7900) (by decide)
        · obtain ⟨c_7904, c_7905, c_7906, c_7907, c_7908⟩ := hw
          exact absurd (c_7875.symm.trans c_7904) (by decide)
        · obtain ⟨c_7909, c_7910, c_7911, c_7912, c_7913, c_7914⟩ := hw
          exact absurd (c_7875.symm.trans c_7909) (by decide)
        · obtain ⟨c_7915, c_7916, c_7917, c_7918, c_7919, c_7920, c_7921⟩ := hw
          exact absurd (c_7875.symm.trans c_7915) (by decide)
        · obtain ⟨c_7922, c_7923, c_7924, c_7925, c_7926, c_7927, c_7928, c_7929⟩ := hw
          exact absurd (c_7875.symm.trans c_7922) (by decide)
        · obtain ⟨c_7930, c_7931, c_7932⟩ := hw
          exact absurd (c_7875.symm.trans c_7930) (by decide)
        · obtain ⟨c_7933, c_7934, c_7935, c_7936⟩ := hw
          exact absurd (c_7875.symm.trans c_7933) (by decide)
        · obtain ⟨c_7937, c_7938, c_7939, c_7940, c_7941⟩ := hw
          exact absurd (c_7875.symm.trans c_7937) (by decide)
        · obtain ⟨c_7942, c_7943, c_7944, c_7945, c_7946, c_7947⟩ := hw
          exact absurd (c_7875.symm.trans c_7942) (by decide)
        · obtain ⟨c_7948, c_7949, c_7950, c_7951, c_7952, c_7953, c_7954⟩ := hw
          exact absurd (c_7875.symm.trans c_7948) (by decide)
        · obtain ⟨c_7955, c_7956, c_7957, c_7958, c_7959, c_7960, c_7961, c_7962, c_7963⟩ := hw
          exact absurd (c_7875.symm.trans c_7955) (by decide)
        · obtain ⟨c_7964, c_7965, c_7966, c_7967, c_7968, c_7969, c_7970, c_7971, c_7972, c_7973⟩ := hw
          exact absurd (c_7875.symm.trans c_7964) (by decide)
        · obtain ⟨c_7974, c_7975⟩ := hw
          exact absurd c_7975 c_7876
        · obtain ⟨c_7976, c_7977, c_7978⟩ := hw
          exact absurd (Int.le_trans (lo_lt c_7978) (up_lt c_7877)) (by decide)
        · obtain ⟨c_7979, c_7980, c_7981, c_7982⟩ := hw
          exact absurd c_7982 c_7878
        · obtain ⟨c_7983, c_7984, c_7985, c_7986, c_7987⟩ := hw
          exact absurd (Int.le_trans (lo_lt c_7987) (up_nle c_7879)) (by decide)
        · obtain ⟨c_7988, c_7989, c_7990, c_7991, c_7992, c_7993⟩ := hw
          exact absurd c_7993 c_7880
        · obtain ⟨c_7994, c_7995, c_7996, c_7997, c_7998, c_7999, c_8000, c_8001⟩ := hw
          exact absurd (c_7882 ▸ c_8001) (by decide)
        · obtain ⟨c_8002, c_8003, c_8004, c_8005, c_8006, c_8007, c_8008, c_8009, c_8010⟩ := hw
          exact absurd (c_7882 ▸ c_8010) (by decide)
        · obtain ⟨c_8011, c_8012, c_8013, c_8014, c_8015, c_8016, c_8017, c_8018, c_8019, c_8020⟩ := hw
          exact absurd (c_7884 ▸ c_8020) (by decide)
        · obtain ⟨c_8021, c_8022, c_8023, c_8024, c_8025, c_8026, c_8027, c_8028, c_8029, c_8030, c_8031⟩ := hw
          exact absurd (c_7884 ▸ c_8031) (by decide)
        · obtain ⟨c_8032, c_8033, c_8034, c_8035, c_8036⟩ := hw
          exact absurd c_8032 c_7874
        · obtain ⟨c_8037, c_8038, c_8039, c_8040, c_8041, c_8042⟩ := hw
          exact absurd c_8037 c_7874
        · obtain ⟨c_8043, c_8044, c_8045, c_8046, c_8047, c_8048, c_8049⟩ := hw
          exact absurd c_8043 c_7874
        · obtain ⟨c_8050, c_8051, c_8052, c_8053, c_8054, c_8055, c_8056, c_8057⟩ := hw
          exact absurd c_8050 c_7874
        · obtain ⟨c_8058, c_8059, c_8060, c_8061, c_8062⟩ := hw
          exact absurd c_8058 c_7873
        · obtain ⟨c_8063, c_8064, c_8065, c_8066, c_8067, c_8068⟩ := hw
          exact absurd c_8063 c_7873
        · obtain ⟨c_8069, c_8070, c_8071, c_8072, c_8073, c_8074, c_8075⟩ := hw
          exact absurd c_8069 c_7873
        · obtain ⟨c_8076, c_8077, c_8078, c_8079, c_8080, c_8081, c_8082, c_8083⟩ := hw
          exact absurd c_8076 c_7873
      · obtain ⟨rfl, rfl, hw⟩ := hw
        rcases hw with hw | hw | hw | hw | hw
        · obtain ⟨c_8084, c_8085, c_8086, c_8087, c_8088, c_8089, c_8090, c_8091⟩ := hw
          exact absurd (c_7875.symm.trans c_8084) (by decide)
        · obtain ⟨c_8092, c_8093, c_8094, c_8095, c_8096, c_8097, c_8098, c_8099, c_8100, c_8101⟩ := hw
          exact absurd (c_7875.symm.trans c_8092) (by decide)
        · obtain ⟨c_8102, c_8103, c_8104, c_8105, c_8106, c_8107, c_8108, c_8109, c_8110, c_8111, c_8112⟩ := hw
          obtain ⟨hP1, hD1⟩ := hB
          rw [ht1] at hP1
          obtain ⟨hP, hD⟩ := va_join (wr := [(o1, .inl (g 1, 1, .inr (.inl (fun _ => 0))))]) (w1 := [((a 200), .inr (21, [.int 2, .ref (a 201), .ref (a 202), .ref (a 203), .ref (a 204), .ref (a 205), .ref (a 206), .int 0, .int 0, .int 0, .int 0, .ref (a 208), .ref (a 209), .ref (a 210), .ref (a 211), .ref (a 212), .int 4, .int 12, .int (-1), .int 0, .ref (g 200), .ref (a 213), .int 0, .int 97, .ref (a 214), .ref (a 215), .ref (a 207), .null, .int 0]))]) hP hD [0] [1] rfl rfl (by decide) (by decide) hk1 hFc hP1 hD1
          have hP : va_P D vwCl [(o1, .inl (g 1, 1, .inr (.inl (fun _ => 0)))), ((a 200), .inr (21, [.int 2, .ref (a 201), .ref (a 202), .ref (a 203), .ref (a 204), .ref (a 205), .ref (a 206), .int 0, .int 0, .int 0, .int 0, .ref (a 208), .ref (a 209), .ref (a 210), .ref (a 211), .ref (a 212), .int 4, .int 12, .int (-1), .int 0, .ref (g 200), .ref (a 213), .int 0, .int 97, .ref (a 214), .ref (a 215), .ref (a 207), .null, .int 0]))] H := hP
          have hD : va_D (va_A [] s.heap.size) [(o1, .inl (g 1, 1, .inr (.inl (fun _ => 0)))), ((a 200), .inr (21, [.int 2, .ref (a 201), .ref (a 202), .ref (a 203), .ref (a 204), .ref (a 205), .ref (a 206), .int 0, .int 0, .int 0, .int 0, .ref (a 208), .ref (a 209), .ref (a 210), .ref (a 211), .ref (a 212), .int 4, .int 12, .int (-1), .int 0, .ref (g 200), .ref (a 213), .int 0, .int 97, .ref (a 214), .ref (a 215), .ref (a 207), .null, .int 0]))] := hD
          refine lv_istore (lv' := [(7, .int 0), (6, .int 2), (0, .ref b), (1, .ref (a 0)), (2, .ref (a 200)), (3, .ref o1), (4, .ref o2), (5, .int 0)]) hx hb dL_law_3285 hl (by decide) rfl (fun ls hl => ?_)
          refine lv_aload_n hx hb dL_law_3287 rfl (lv_at hl 4 rfl) ?_
          have hPc : va_P D vwCl [((a 200), .inr (21, [.int 2, .ref (a 201), .ref (a 202), .ref (a 203), .ref (a 204), .ref (a 205), .ref (a 206), .int 0, .int 0, .int 0, .int 0, .ref (a 208), .ref (a 209), .ref (a 210), .ref (a 211), .ref (a 212), .int 4, .int 12, .int (-1), .int 0, .ref (g 200), .ref (a 213), .int 0, .int 97, .ref (a 214), .ref (a 215), .ref (a 207), .null, .int 0]))] _ := hP.sub (ws' := [((a 200), .inr (21, [.int 2, .ref (a 201), .ref (a 202), .ref (a 203), .ref (a 204), .ref (a 205), .ref (a 206), .int 0, .int 0, .int 0, .int 0, .ref (a 208), .ref (a 209), .ref (a 210), .ref (a 211), .ref (a 212), .int 4, .int 12, .int (-1), .int 0, .ref (g 200), .ref (a 213), .int 0, .int 97, .ref (a 214), .ref (a 215), .ref (a 207), .null, .int 0]))]) [1] rfl
          have hDc : va_D (fun q => z0 ≤ q) [((a 200), .inr (21, [.int 2, .ref (a 201), .ref (a 202), .ref (a 203), .ref (a 204), .ref (a 205), .ref (a 206), .int 0, .int 0, .int 0, .int 0, .ref (a 208), .ref (a 209), .ref (a 210), .ref (a 211), .ref (a 212), .int 4, .int 12, .int (-1), .int 0, .ref (g 200), .ref (a 213), .int 0, .int 97, .ref (a 214), .ref (a 215), .ref (a 207), .null, .int 0]))] := (hD.to hAz).pick (ws' := [((a 200), .inr (21, [.int 2, .ref (a 201), .ref (a 202), .ref (a 203), .ref (a 204), .ref (a 205), .ref (a 206), .int 0, .int 0, .int 0, .int 0, .ref (a 208), .ref (a 209), .ref (a 210), .ref (a 211), .ref (a 212), .int 4, .int 12, .int (-1), .int 0, .ref (g 200), .ref (a 213), .int 0, .int 97, .ref (a 214), .ref (a 215), .ref (a 207), .null, .int 0]))]) [1] (by decide) rfl
          have hFc := va_free (wc := [((a 200), .inr (21, [.int 2, .ref (a 201), .ref (a 202), .ref (a 203), .ref (a 204), .ref (a 205), .ref (a 206), .int 0, .int 0, .int 0, .int 0, .ref (a 208), .ref (a 209), .ref (a 210), .ref (a 211), .ref (a 212), .int 4, .int 12, .int (-1), .int 0, .ref (g 200), .ref (a 213), .int 0, .int 97, .ref (a 214), .ref (a 215), .ref (a 207), .null, .int 0]))]) hD hS hA [1] rfl
          refine va_calli (va_runV (As := []) (rest := []) ⟨hx, hb, hml, hown, ht⟩ (k_X15_thrown_v1 l D g z0 _ a) (cwV 0 ht (gV w_772 w_774 w_775 w_334 w_773) rfl rfl rfl (by decide +kernel) (le2 rfl rfl)) ⟨PP.blind, va_recv hK.1 hP (ci := 21) (q0 := 1) rfl rfl, PP.mk' hK hZ hz hAz hS hPc hDc⟩ rfl rfl hl.1 rfl (lv_room (Nat.le_of_ble_eq_true rfl)) dL_law_3288 (le2 rfl rfl)) hS (fun q _ h => hFc q h) hFc (fun r u t H locs ht1 hvm hw hB hz1 hk1 hS => ?_)
          obtain ⟨rfl, hw⟩ := hw
          obtain ⟨hP1, hD1⟩ := hB
          rw [ht1] at hP1
          obtain ⟨hP, hD⟩ := va_join (wr := [(o1, .inl (g 1, 1, .inr (.inl (fun _ => 0))))]) (w1 := [((a 200), .inr (21, [.int 2, .ref (a 201), .ref (a 202), .ref (a 203), .ref (a 204), .ref (a 205), .ref (a 206), .int 0, .int 0, .int 0, .int 0, .ref (a 208), .ref (a 209), .ref (a 210), .ref (a 211), .ref (a 212), .int 4, .int 12, .int (-1), .int 0, .ref (g 200), .ref (a 213), .int 0, .int 97, .ref (a 214), .ref (a 215), .ref (a 207), .null, .int 0]))]) hP hD [1] [0] rfl rfl (by decide) (by decide) hk1 hFc hP1 hD1
          have hP : va_P D vwCl [(o1, .inl (g 1, 1, .inr (.inl (fun _ => 0)))), ((a 200), .inr (21, [.int 2, .ref (a 201), .ref (a 202), .ref (a 203), .ref (a 204), .ref (a 205), .ref (a 206), .int 0, .int 0, .int 0, .int 0, .ref (a 208), .ref (a 209), .ref (a 210), .ref (a 211), .ref (a 212), .int 4, .int 12, .int (-1), .int 0, .ref (g 200), .ref (a 213), .int 0, .int 97, .ref (a 214), .ref (a 215), .ref (a 207), .null, .int 0]))] H := hP
          have hD : va_D (va_A [] s.heap.size) [(o1, .inl (g 1, 1, .inr (.inl (fun _ => 0)))), ((a 200), .inr (21, [.int 2, .ref (a 201), .ref (a 202), .ref (a 203), .ref (a 204), .ref (a 205), .ref (a 206), .int 0, .int 0, .int 0, .int 0, .ref (a 208), .ref (a 209), .ref (a 210), .ref (a 211), .ref (a 212), .int 4, .int 12, .int (-1), .int 0, .ref (g 200), .ref (a 213), .int 0, .int 97, .ref (a 214), .ref (a 215), .ref (a 207), .null, .int 0]))] := hD
          refine lv_iload hx hb dL_law_3291 (lv_at hl 1 rfl) ?_
          refine lv_icmp_eq (tgt := 3298) hx hb dL_law_3293 (by decide) (fun c_8113 => ?_) (fun c_8113 => ?_)
          · refine lv_iload hx hb dL_law_3298 (lv_at hl 1 rfl) ?_
            refine lv_if_ne (tgt := 3322) hx hb dL_law_3300 (by decide) (fun c_8114 => ?_) (fun c_8114 => ?_)
            · refine lv_goto (tgt := 4264) hx hb dL_law_3322 (by decide) ?_
              refine W.widen (k := 200 + 300) (n := 8000 + 2000) (Nat.le_of_ble_eq_true rfl) (Nat.le_of_ble_eq_true rfl) ?_
              exact kk _ _ _ hS (lv_sub hl [7, 2] rfl)
            · exact absurd c_8114 (by decide)
          · exact absurd c_8113 (by decide)
        · obtain ⟨c_8115, c_8116, c_8117, c_8118, c_8119, c_8120, c_8121, c_8122⟩ := hw
          exact absurd c_8115 c_7874
        · obtain ⟨c_8123, c_8124, c_8125, c_8126, c_8127, c_8128, c_8129, c_8130⟩ := hw
          exact absurd c_8123 c_7873
    · obtain ⟨c_8131, c_8132, c_8133, c_8134, c_8135, c_8136, c_8137, c_8138, c_8139, c_8140, c_8141, c_8142⟩ := hw
      obtain ⟨hP1, hD1⟩ := hB
      rw [ht1] at hP1
      obtain ⟨hP, hD⟩ := va_join (wr := [((a 200), f_m a g)]) (w1 := [(o1, .inl (g 1, 1, .inr (.inl (fun _ => 0))))]) hP hD [3, 0, 1] [2] rfl rfl (by decide) (by decide) hk1 hFc hP1 hD1
      have hP : va_P D vwCl [((a 200), f_m a g), (o1, .inl (g 1, 1, .inr (.inl (fun _ => 0))))] H := hP
      have hD : va_D (va_A [] s.heap.size) [((a 200), f_m a g), (o1, .inl (g 1, 1, .inr (.inl (fun _ => 0))))] := hD
      refine lv_istore (lv' := [(6, .int 2), (0, .ref b), (1, .ref (a 0)), (2, .ref (a 200)), (3, .ref o1), (4, .ref o2), (5, .int 0)]) hx hb dL_law_3248 hl (by decide) rfl (fun ls hl => ?_)
      refine lv_aload_n hx hb dL_law_3250 rfl (lv_at hl 3 rfl) ?_
      refine lv_aload_n hx hb dL_law_3251 rfl (lv_at hl 1 rfl) ?_
      refine lv_iload hx hb dL_law_3252 (lv_at hl 6 rfl) ?_
      refine lv_iconst (v := 1) hx hb dL_law_3254 (by decide) ?_
      refine lv_iadd hx hb dL_law_3255 ?_
      refine r_topi (v := 1) (by decide) ?_
      refine va_sld hx hb hX hbl hbA hS (by unfold vp_in; decide) dL_law_3256 ?_
      refine r_topi (v := xs 1) (congrArg xs (by decide)) ?_
      refine lv_i2c (v := ((xs 1).toUInt32 % 65536).toInt32) hx hb dL_law_3257 rfl ?_
      refine lv_aload_n hx hb dL_law_3258 rfl (lv_at hl 1 rfl) ?_
      refine lv_iload hx hb dL_law_3259 (lv_at hl 6 rfl) ?_
      refine lv_iconst (v := 2) hx hb dL_law_3261 (by decide) ?_
      refine lv_iadd hx hb dL_law_3262 ?_
      refine r_topi (v := 2) (by decide) ?_
      refine va_sld hx hb hX hbl hbA hS (by unfold vp_in; decide) dL_law_3263 ?_
      refine r_topi (v := xs 2) (congrArg xs (by decide)) ?_
      refine lv_aload_n hx hb dL_law_3264 rfl (lv_at hl 1 rfl) ?_
      refine lv_iload hx hb dL_law_3265 (lv_at hl 6 rfl) ?_
      refine lv_iconst (v := 3) hx hb dL_law_3267 (by decide) ?_
      refine lv_iadd hx hb dL_law_3268 ?_
      refine r_topi (v := 3) (by decide) ?_
      refine va_sld hx hb hX hbl hbA hS (by unfold vp_in; decide) dL_law_3269 ?_
      refine r_topi (v := xs 3) (congrArg xs (by decide)) ?_
      refine lv_aload_n hx hb dL_law_3270 rfl (lv_at hl 1 rfl) ?_
      refine lv_iload hx hb dL_law_3271 (lv_at hl 6 rfl) ?_
      refine lv_iconst (v := 4) hx hb dL_law_3273 (by decide) ?_
      refine lv_iadd hx hb dL_law_3274 ?_
      refine r_topi (v := 4) (by decide) ?_
      refine va_sld hx hb hX hbl hbA hS (by unfold vp_in; decide) dL_law_3275 ?_
      refine r_topi (v := xs 4) (congrArg xs (by decide)) ?_
      refine lv_aload_n hx hb dL_law_3276 rfl (lv_at hl 1 rfl) ?_
      refine lv_iload hx hb dL_law_3277 (lv_at hl 6 rfl) ?_
      refine lv_iconst (v := 5) hx hb dL_law_3279 (by decide) ?_
      refine lv_iadd hx hb dL_law_3280 ?_
      refine r_topi (v := 5) (by decide) ?_
      refine va_sld hx hb hX hbl hbA hS (by unfold vp_in; decide) dL_law_3281 ?_
      refine r_topi (v := xs 5) (congrArg xs (by decide)) ?_
      have hPc : va_P D vwCl [((a 200), f_m a g)] _ := hP.sub (ws' := [((a 200), f_m a g)]) [0] rfl
      have hDc : va_D (fun q => z0 ≤ q) [((a 200), f_m a g)] := (hD.to hAz).pick (ws' := [((a 200), f_m a g)]) [0] (by decide) rfl
      have hFc := va_free (wc := [((a 200), f_m a g)]) hD hS hA [0] rfl
      refine va_calli (va_runV (As := [.int (((xs 1).toUInt32 % 65536).toInt32), .int (xs 2), .int (xs 3), .int (xs 4), .int (xs 5)]) (rest := []) ⟨hx, hb, hml, hown, ht⟩ (k_X15_marchFinds l D g z0 _ a (((xs 1).toUInt32 % 65536).toInt32) (xs 2) (xs 3) (xs 4) (xs 5) (isC_i2c _)) (cwV 5 ht (gV w_1231 w_1233 w_1234 w_334 w_1232) rfl rfl rfl (by decide +kernel) (le2 rfl rfl)) ⟨PP.blind, va_recv hK.1 hP (ci := 21) (q0 := 0) rfl rfl, PP.mk' hK hZ hz hAz hS hPc hDc⟩ rfl rfl hl.1 rfl (lv_room (Nat.le_of_ble_eq_true rfl)) dL_law_3282 (le2 rfl rfl)) hS (fun q _ h => hFc q h) hFc (fun r u t H locs ht1 hvm hw hB hz1 hk1 hS => ?_)
      rcases hw with hw | hw
      · obtain ⟨rfl, rfl, hw⟩ := hw
        rcases hw with hw | hw | hw | hw | hw | hw | hw | hw | hw | hw | hw | hw | hw | hw | hw | hw | hw | hw | hw | hw | hw | hw | hw | hw | hw | hw | hw | hw | hw | hw | hw | hw
        · obtain ⟨c_8143, c_8144, c_8145, c_8146, c_8147⟩ := hw
          exact absurd c_8133 c_8145
        · obtain ⟨c_8148, c_8149, c_8150, c_8151, c_8152⟩ := hw
          exact absurd c_8133 c_8150
        · obtain ⟨c_8153, c_8154, c_8155, c_8156, c_8157⟩ := hw
          exact absurd c_8133 c_8155
        · obtain ⟨c_8158, c_8159, c_8160, c_8161⟩ := hw
          exact absurd (c_8133.symm.trans c_8158) (by decide)
        · obtain ⟨c_8162, c_8163, c_8164, c_8165, c_8166⟩ := hw
          exact absurd (c_8133.symm.trans c_8162) (by decide)
        · obtain ⟨c_8167, c_8168, c_8169, c_8170, c_8171, c_8172⟩ := hw
          exact absurd (c_8133.symm.trans c_8167) (by decide)
        · obtain ⟨c_8173, c_8174, c_8175, c_8176, c_8177, c_8178, c_8179⟩ := hw
          exact absurd (c_8133.symm.trans c_8173) (by decide)
        · obtain ⟨c_8180, c_8181, c_8182, c_8183, c_8184, c_8185, c_8186, c_8187⟩ := hw
          exact absurd (c_8133.symm.trans c_8180) (by decide)
        · obtain ⟨c_8188, c_8189, c_8190⟩ := hw
          exact absurd (c_8133.symm.trans c_8188) (by decide)
        · obtain ⟨c_8191, c_8192, c_8193, c_8194⟩ := hw
          exact absurd (c_8133.symm.trans c_8191) (by decide)
        · obtain ⟨c_8195, c_8196, c_8197, c_8198, c_8199⟩ := hw
          exact absurd (c_8133.symm.trans c_8195) (by decide)
        · obtain ⟨c_8200, c_8201, c_8202, c_8203, c_8204, c_8205⟩ := hw
          exact absurd (c_8133.symm.trans c_8200) (by decide)
        · obtain ⟨c_8206, c_8207, c_8208, c_8209, c_8210, c_8211, c_8212⟩ := hw
          exact absurd (c_8133.symm.trans c_8206) (by decide)
        · obtain ⟨c_8213, c_8214, c_8215, c_8216, c_8217, c_8218, c_8219, c_8220, c_8221⟩ := hw
          exact absurd (c_8133.symm.trans c_8213) (by decide)
        · obtain ⟨c_8222, c_8223, c_8224, c_8225, c_8226, c_8227, c_8228, c_8229, c_8230, c_8231⟩ := hw
          exact absurd (c_8133.symm.trans c_8222) (by decide)
        · obtain ⟨c_8232, c_8233⟩ := hw
          exact absurd c_8233 c_8134
        · obtain ⟨c_8234, c_8235, c_8236⟩ := hw
          exact absurd (Int.le_trans (lo_lt c_8236) (up_lt c_8135)) (by decide)
        · obtain ⟨c_8237, c_8238, c_8239, c_8240⟩ := hw
          exact absurd c_8240 c_8136
        · obtain ⟨c_8241, c_8242, c_8243, c_8244, c_8245⟩ := hw
          exact absurd (Int.le_trans (lo_lt c_8245) (up_nle c_8137)) (by decide)
        · obtain ⟨c_8246, c_8247, c_8248, c_8249, c_8250, c_8251⟩ := hw
          exact absurd c_8251 c_8138
        · obtain ⟨c_8252, c_8253, c_8254, c_8255, c_8256, c_8257, c_8258, c_8259⟩ := hw
          exact absurd (c_8141 ▸ c_8259) (by decide)
        · obtain ⟨c_8260, c_8261, c_8262, c_8263, c_8264, c_8265, c_8266, c_8267, c_8268⟩ := hw
          exact absurd (c_8141 ▸ c_8268) (by decide)
        · obtain ⟨c_8269, c_8270, c_8271, c_8272, c_8273, c_8274, c_8275, c_8276, c_8277, c_8278⟩ := hw
          exact absurd (c_8142 ▸ c_8278) (by decide)
        · obtain ⟨c_8279, c_8280, c_8281, c_8282, c_8283, c_8284, c_8285, c_8286, c_8287, c_8288, c_8289⟩ := hw
          exact absurd (c_8142 ▸ c_8289) (by decide)
        · obtain ⟨c_8290, c_8291, c_8292, c_8293, c_8294⟩ := hw
          exact absurd c_8290 c_8132
        · obtain ⟨c_8295, c_8296, c_8297, c_8298, c_8299, c_8300⟩ := hw
          exact absurd c_8295 c_8132
        · obtain ⟨c_8301, c_8302, c_8303, c_8304, c_8305, c_8306, c_8307⟩ := hw
          exact absurd c_8301 c_8132
        · obtain ⟨c_8308, c_8309, c_8310, c_8311, c_8312, c_8313, c_8314, c_8315⟩ := hw
          exact absurd c_8308 c_8132
        · obtain ⟨c_8316, c_8317, c_8318, c_8319, c_8320⟩ := hw
          exact absurd c_8316 c_8131
        · obtain ⟨c_8321, c_8322, c_8323, c_8324, c_8325, c_8326⟩ := hw
          exact absurd c_8321 c_8131
        · obtain ⟨c_8327, c_8328, c_8329, c_8330, c_8331, c_8332, c_8333⟩ := hw
          exact absurd c_8327 c_8131
        · obtain ⟨c_8334, c_8335, c_8336, c_8337, c_8338, c_8339, c_8340, c_8341⟩ := hw
          exact absurd c_8334 c_8131
      · obtain ⟨rfl, rfl, hw⟩ := hw
        rcases hw with hw | hw | hw | hw | hw
        · obtain ⟨c_8342, c_8343, c_8344, c_8345, c_8346, c_8347, c_8348, c_8349⟩ := hw
          exact absurd (c_8133.symm.trans c_8342) (by decide)
        · obtain ⟨c_8350, c_8351, c_8352, c_8353, c_8354, c_8355, c_8356, c_8357, c_8358, c_8359⟩ := hw
          exact absurd (c_8133.symm.trans c_8350) (by decide)
        · obtain ⟨c_8360, c_8361, c_8362, c_8363, c_8364, c_8365, c_8366, c_8367, c_8368, c_8369, c_8370⟩ := hw
          obtain ⟨hP1, hD1⟩ := hB
          rw [ht1] at hP1
          obtain ⟨hP, hD⟩ := va_join (wr := [(o1, .inl (g 1, 1, .inr (.inl (fun _ => 0))))]) (w1 := [((a 200), .inr (21, [.int 2, .ref (a 201), .ref (a 202), .ref (a 203), .ref (a 204), .ref (a 205), .ref (a 206), .int 0, .int 0, .int 0, .int 0, .ref (a 208), .ref (a 209), .ref (a 210), .ref (a 211), .ref (a 212), .int 4, .int 12, .int (-1), .int 0, .ref (g 200), .ref (a 213), .int 0, .int 97, .ref (a 214), .ref (a 215), .ref (a 207), .null, .int 0]))]) hP hD [0] [1] rfl rfl (by decide) (by decide) hk1 hFc hP1 hD1
          have hP : va_P D vwCl [(o1, .inl (g 1, 1, .inr (.inl (fun _ => 0)))), ((a 200), .inr (21, [.int 2, .ref (a 201), .ref (a 202), .ref (a 203), .ref (a 204), .ref (a 205), .ref (a 206), .int 0, .int 0, .int 0, .int 0, .ref (a 208), .ref (a 209), .ref (a 210), .ref (a 211), .ref (a 212), .int 4, .int 12, .int (-1), .int 0, .ref (g 200), .ref (a 213), .int 0, .int 97, .ref (a 214), .ref (a 215), .ref (a 207), .null, .int 0]))] H := hP
          have hD : va_D (va_A [] s.heap.size) [(o1, .inl (g 1, 1, .inr (.inl (fun _ => 0)))), ((a 200), .inr (21, [.int 2, .ref (a 201), .ref (a 202), .ref (a 203), .ref (a 204), .ref (a 205), .ref (a 206), .int 0, .int 0, .int 0, .int 0, .ref (a 208), .ref (a 209), .ref (a 210), .ref (a 211), .ref (a 212), .int 4, .int 12, .int (-1), .int 0, .ref (g 200), .ref (a 213), .int 0, .int 97, .ref (a 214), .ref (a 215), .ref (a 207), .null, .int 0]))] := hD
          refine lv_istore (lv' := [(7, .int 0), (6, .int 2), (0, .ref b), (1, .ref (a 0)), (2, .ref (a 200)), (3, .ref o1), (4, .ref o2), (5, .int 0)]) hx hb dL_law_3285 hl (by decide) rfl (fun ls hl => ?_)
          refine lv_aload_n hx hb dL_law_3287 rfl (lv_at hl 4 rfl) ?_
          have hPc : va_P D vwCl [((a 200), .inr (21, [.int 2, .ref (a 201), .ref (a 202), .ref (a 203), .ref (a 204), .ref (a 205), .ref (a 206), .int 0, .int 0, .int 0, .int 0, .ref (a 208), .ref (a 209), .ref (a 210), .ref (a 211), .ref (a 212), .int 4, .int 12, .int (-1), .int 0, .ref (g 200), .ref (a 213), .int 0, .int 97, .ref (a 214), .ref (a 215), .ref (a 207), .null, .int 0]))] _ := hP.sub (ws' := [((a 200), .inr (21, [.int 2, .ref (a 201), .ref (a 202), .ref (a 203), .ref (a 204), .ref (a 205), .ref (a 206), .int 0, .int 0, .int 0, .int 0, .ref (a 208), .ref (a 209), .ref (a 210), .ref (a 211), .ref (a 212), .int 4, .int 12, .int (-1), .int 0, .ref (g 200), .ref (a 213), .int 0, .int 97, .ref (a 214), .ref (a 215), .ref (a 207), .null, .int 0]))]) [1] rfl
          have hDc : va_D (fun q => z0 ≤ q) [((a 200), .inr (21, [.int 2, .ref (a 201), .ref (a 202), .ref (a 203), .ref (a 204), .ref (a 205), .ref (a 206), .int 0, .int 0, .int 0, .int 0, .ref (a 208), .ref (a 209), .ref (a 210), .ref (a 211), .ref (a 212), .int 4, .int 12, .int (-1), .int 0, .ref (g 200), .ref (a 213), .int 0, .int 97, .ref (a 214), .ref (a 215), .ref (a 207), .null, .int 0]))] := (hD.to hAz).pick (ws' := [((a 200), .inr (21, [.int 2, .ref (a 201), .ref (a 202), .ref (a 203), .ref (a 204), .ref (a 205), .ref (a 206), .int 0, .int 0, .int 0, .int 0, .ref (a 208), .ref (a 209), .ref (a 210), .ref (a 211), .ref (a 212), .int 4, .int 12, .int (-1), .int 0, .ref (g 200), .ref (a 213), .int 0, .int 97, .ref (a 214), .ref (a 215), .ref (a 207), .null, .int 0]))]) [1] (by decide) rfl
          have hFc := va_free (wc := [((a 200), .inr (21, [.int 2, .ref (a 201), .ref (a 202), .ref (a 203), .ref (a 204), .ref (a 205), .ref (a 206), .int 0, .int 0, .int 0, .int 0, .ref (a 208), .ref (a 209), .ref (a 210), .ref (a 211), .ref (a 212), .int 4, .int 12, .int (-1), .int 0, .ref (g 200), .ref (a 213), .int 0, .int 97, .ref (a 214), .ref (a 215), .ref (a 207), .null, .int 0]))]) hD hS hA [1] rfl
          refine va_calli (va_runV (As := []) (rest := []) ⟨hx, hb, hml, hown, ht⟩ (k_X15_thrown_v1 l D g z0 _ a) (cwV 0 ht (gV w_772 w_774 w_775 w_334 w_773) rfl rfl rfl (by decide +kernel) (le2 rfl rfl)) ⟨PP.blind, va_recv hK.1 hP (ci := 21) (q0 := 1) rfl rfl, PP.mk' hK hZ hz hAz hS hPc hDc⟩ rfl rfl hl.1 rfl (lv_room (Nat.le_of_ble_eq_true rfl)) dL_law_3288 (le2 rfl rfl)) hS (fun q _ h => hFc q h) hFc (fun r u t H locs ht1 hvm hw hB hz1 hk1 hS => ?_)
          obtain ⟨rfl, hw⟩ := hw
          obtain ⟨hP1, hD1⟩ := hB
          rw [ht1] at hP1
          obtain ⟨hP, hD⟩ := va_join (wr := [(o1, .inl (g 1, 1, .inr (.inl (fun _ => 0))))]) (w1 := [((a 200), .inr (21, [.int 2, .ref (a 201), .ref (a 202), .ref (a 203), .ref (a 204), .ref (a 205), .ref (a 206), .int 0, .int 0, .int 0, .int 0, .ref (a 208), .ref (a 209), .ref (a 210), .ref (a 211), .ref (a 212), .int 4, .int 12, .int (-1), .int 0, .ref (g 200), .ref (a 213), .int 0, .int 97, .ref (a 214), .ref (a 215), .ref (a 207), .null, .int 0]))]) hP hD [1] [0] rfl rfl (by decide) (by decide) hk1 hFc hP1 hD1
          have hP : va_P D vwCl [(o1, .inl (g 1, 1, .inr (.inl (fun _ => 0)))), ((a 200), .inr (21, [.int 2, .ref (a 201), .ref (a 202), .ref (a 203), .ref (a 204), .ref (a 205), .ref (a 206), .int 0, .int 0, .int 0, .int 0, .ref (a 208), .ref (a 209), .ref (a 210), .ref (a 211), .ref (a 212), .int 4, .int 12, .int (-1), .int 0, .ref (g 200), .ref (a 213), .int 0, .int 97, .ref (a 214), .ref (a 215), .ref (a 207), .null, .int 0]))] H := hP
          have hD : va_D (va_A [] s.heap.size) [(o1, .inl (g 1, 1, .inr (.inl (fun _ => 0)))), ((a 200), .inr (21, [.int 2, .ref (a 201), .ref (a 202), .ref (a 203), .ref (a 204), .ref (a 205), .ref (a 206), .int 0, .int 0, .int 0, .int 0, .ref (a 208), .ref (a 209), .ref (a 210), .ref (a 211), .ref (a 212), .int 4, .int 12, .int (-1), .int 0, .ref (g 200), .ref (a 213), .int 0, .int 97, .ref (a 214), .ref (a 215), .ref (a 207), .null, .int 0]))] := hD
          refine lv_iload hx hb dL_law_3291 (lv_at hl 1 rfl) ?_
          refine lv_icmp_eq (tgt := 3298) hx hb dL_law_3293 (by decide) (fun c_8371 => ?_) (fun c_8371 => ?_)
          · refine lv_iload hx hb dL_law_3298 (lv_at hl 1 rfl) ?_
            refine lv_if_ne (tgt := 3322) hx hb dL_law_3300 (by decide) (fun c_8372 => ?_) (fun c_8372 => ?_)
            · refine lv_goto (tgt := 4264) hx hb dL_law_3322 (by decide) ?_
              refine W.widen (k := 200 + 300) (n := 8000 + 2000) (Nat.le_of_ble_eq_true rfl) (Nat.le_of_ble_eq_true rfl) ?_
              exact kk _ _ _ hS (lv_sub hl [7, 2] rfl)
            · exact absurd c_8372 (by decide)
          · exact absurd c_8371 (by decide)
        · obtain ⟨c_8373, c_8374, c_8375, c_8376, c_8377, c_8378, c_8379, c_8380⟩ := hw
          exact absurd c_8373 c_8132
        · obtain ⟨c_8381, c_8382, c_8383, c_8384, c_8385, c_8386, c_8387, c_8388⟩ := hw
          exact absurd c_8381 c_8131
    · obtain ⟨c_8389, c_8390, c_8391, c_8392, c_8393, c_8394, c_8395, c_8396, c_8397, c_8398, c_8399, c_8400, c_8401⟩ := hw
      obtain ⟨hP1, hD1⟩ := hB
      rw [ht1] at hP1
      obtain ⟨hP, hD⟩ := va_join (wr := [((a 200), f_m a g)]) (w1 := [(o1, .inl (g 1, 1, .inr (.inl (fun _ => 0))))]) hP hD [3, 0, 1] [2] rfl rfl (by decide) (by decide) hk1 hFc hP1 hD1
      have hP : va_P D vwCl [((a 200), f_m a g), (o1, .inl (g 1, 1, .inr (.inl (fun _ => 0))))] H := hP
      have hD : va_D (va_A [] s.heap.size) [((a 200), f_m a g), (o1, .inl (g 1, 1, .inr (.inl (fun _ => 0))))] := hD
      refine lv_istore (lv' := [(6, .int 2), (0, .ref b), (1, .ref (a 0)), (2, .ref (a 200)), (3, .ref o1), (4, .ref o2), (5, .int 0)]) hx hb dL_law_3248 hl (by decide) rfl (fun ls hl => ?_)
      refine lv_aload_n hx hb dL_law_3250 rfl (lv_at hl 3 rfl) ?_
      refine lv_aload_n hx hb dL_law_3251 rfl (lv_at hl 1 rfl) ?_
      refine lv_iload hx hb dL_law_3252 (lv_at hl 6 rfl) ?_
      refine lv_iconst (v := 1) hx hb dL_law_3254 (by decide) ?_
      refine lv_iadd hx hb dL_law_3255 ?_
      refine r_topi (v := 1) (by decide) ?_
      refine va_sld hx hb hX hbl hbA hS (by unfold vp_in; decide) dL_law_3256 ?_
      refine r_topi (v := xs 1) (congrArg xs (by decide)) ?_
      refine lv_i2c (v := ((xs 1).toUInt32 % 65536).toInt32) hx hb dL_law_3257 rfl ?_
      refine lv_aload_n hx hb dL_law_3258 rfl (lv_at hl 1 rfl) ?_
      refine lv_iload hx hb dL_law_3259 (lv_at hl 6 rfl) ?_
      refine lv_iconst (v := 2) hx hb dL_law_3261 (by decide) ?_
      refine lv_iadd hx hb dL_law_3262 ?_
      refine r_topi (v := 2) (by decide) ?_
      refine va_sld hx hb hX hbl hbA hS (by unfold vp_in; decide) dL_law_3263 ?_
      refine r_topi (v := xs 2) (congrArg xs (by decide)) ?_
      refine lv_aload_n hx hb dL_law_3264 rfl (lv_at hl 1 rfl) ?_
      refine lv_iload hx hb dL_law_3265 (lv_at hl 6 rfl) ?_
      refine lv_iconst (v := 3) hx hb dL_law_3267 (by decide) ?_
      refine lv_iadd hx hb dL_law_3268 ?_
      refine r_topi (v := 3) (by decide) ?_
      refine va_sld hx hb hX hbl hbA hS (by unfold vp_in; decide) dL_law_3269 ?_
      refine r_topi (v := xs 3) (congrArg xs (by decide)) ?_
      refine lv_aload_n hx hb dL_law_3270 rfl (lv_at hl 1 rfl) ?_
      refine lv_iload hx hb dL_law_3271 (lv_at hl 6 rfl) ?_
      refine lv_iconst (v := 4) hx hb dL_law_3273 (by decide) ?_
      refine lv_iadd hx hb dL_law_3274 ?_
      refine r_topi (v := 4) (by decide) ?_
      refine va_sld hx hb hX hbl hbA hS (by unfold vp_in; decide) dL_law_3275 ?_
      refine r_topi (v := xs 4) (congrArg xs (by decide)) ?_
      refine lv_aload_n hx hb dL_law_3276 rfl (lv_at hl 1 rfl) ?_
      refine lv_iload hx hb dL_law_3277 (lv_at hl 6 rfl) ?_
      refine lv_iconst (v := 5) hx hb dL_law_3279 (by decide) ?_
      refine lv_iadd hx hb dL_law_3280 ?_
      refine r_topi (v := 5) (by decide) ?_
      refine va_sld hx hb hX hbl hbA hS (by unfold vp_in; decide) dL_law_3281 ?_
      refine r_topi (v := xs 5) (congrArg xs (by decide)) ?_
      have hPc : va_P D vwCl [((a 200), f_m a g)] _ := hP.sub (ws' := [((a 200), f_m a g)]) [0] rfl
      have hDc : va_D (fun q => z0 ≤ q) [((a 200), f_m a g)] := (hD.to hAz).pick (ws' := [((a 200), f_m a g)]) [0] (by decide) rfl
      have hFc := va_free (wc := [((a 200), f_m a g)]) hD hS hA [0] rfl
      refine va_calli (va_runV (As := [.int (((xs 1).toUInt32 % 65536).toInt32), .int (xs 2), .int (xs 3), .int (xs 4), .int (xs 5)]) (rest := []) ⟨hx, hb, hml, hown, ht⟩ (k_X15_marchFinds l D g z0 _ a (((xs 1).toUInt32 % 65536).toInt32) (xs 2) (xs 3) (xs 4) (xs 5) (isC_i2c _)) (cwV 5 ht (gV w_1231 w_1233 w_1234 w_334 w_1232) rfl rfl rfl (by decide +kernel) (le2 rfl rfl)) ⟨PP.blind, va_recv hK.1 hP (ci := 21) (q0 := 0) rfl rfl, PP.mk' hK hZ hz hAz hS hPc hDc⟩ rfl rfl hl.1 rfl (lv_room (Nat.le_of_ble_eq_true rfl)) dL_law_3282 (le2 rfl rfl)) hS (fun q _ h => hFc q h) hFc (fun r u t H locs ht1 hvm hw hB hz1 hk1 hS => ?_)
      rcases hw with hw | hw
      · obtain ⟨rfl, rfl, hw⟩ := hw
        rcases hw with hw | hw | hw | hw | hw | hw | hw | hw | hw | hw | hw | hw | hw | hw | hw | hw | hw | hw | hw | hw | hw | hw | hw | hw | hw | hw | hw | hw | hw | hw | hw | hw
        · obtain ⟨c_8402, c_8403, c_8404, c_8405, c_8406⟩ := hw
          exact absurd c_8391 c_8404
        · obtain ⟨c_8407, c_8408, c_8409, c_8410, c_8411⟩ := hw
          exact absurd c_8391 c_8409
        · obtain ⟨c_8412, c_8413, c_8414, c_8415, c_8416⟩ := hw
          exact absurd c_8391 c_8414
        · obtain ⟨c_8417, c_8418, c_8419, c_8420⟩ := hw
          exact absurd (c_8391.symm.trans c_8417) (by decide)
        · obtain ⟨c_8421, c_8422, c_8423, c_8424, c_8425⟩ := hw
          exact absurd (c_8391.symm.trans c_8421) (by decide)
        · obtain ⟨c_8426, c_8427, c_8428, c_8429, c_8430, c_8431⟩ := hw
          exact absurd (c_8391.symm.trans c_8426) (by decide)
        · obtain ⟨c_8432, c_8433, c_8434, c_8435, c_8436, c_8437, c_8438⟩ := hw
          exact absurd (c_8391.symm.trans c_8432) (by decide)
        · obtain ⟨c_8439, c_8440, c_8441, c_8442, c_8443, c_8444, c_8445, c_8446⟩ := hw
          exact absurd (c_8391.symm.trans c_8439) (by decide)
        · obtain ⟨c_8447, c_8448, c_8449⟩ := hw
          exact absurd (c_8391.symm.trans c_8447) (by decide)
        · obtain ⟨c_8450, c_8451, c_8452, c_8453⟩ := hw
          exact absurd (c_8391.symm.trans c_8450) (by decide)
        · obtain ⟨c_8454, c_8455, c_8456, c_8457, c_8458⟩ := hw
          exact absurd (c_8391.symm.trans c_8454) (by decide)
        · obtain ⟨c_8459, c_8460, c_8461, c_8462, c_8463, c_8464⟩ := hw
          exact absurd (c_8391.symm.trans c_8459) (by decide)
        · obtain ⟨c_8465, c_8466, c_8467, c_8468, c_8469, c_8470, c_8471⟩ := hw
          exact absurd (c_8391.symm.trans c_8465) (by decide)
        · obtain ⟨c_8472, c_8473, c_8474, c_8475, c_8476, c_8477, c_8478, c_8479, c_8480⟩ := hw
          exact absurd (c_8391.symm.trans c_8472) (by decide)
        · obtain ⟨c_8481, c_8482, c_8483, c_8484, c_8485, c_8486, c_8487, c_8488, c_8489, c_8490⟩ := hw
          exact absurd (c_8391.symm.trans c_8481) (by decide)
        · obtain ⟨c_8491, c_8492⟩ := hw
          exact absurd c_8492 c_8392
        · obtain ⟨c_8493, c_8494, c_8495⟩ := hw
          exact absurd (Int.le_trans (lo_lt c_8495) (up_lt c_8393)) (by decide)
        · obtain ⟨c_8496, c_8497, c_8498, c_8499⟩ := hw
          exact absurd c_8499 c_8394
        · obtain ⟨c_8500, c_8501, c_8502, c_8503, c_8504⟩ := hw
          exact absurd (Int.le_trans (lo_lt c_8504) (up_nle c_8395)) (by decide)
        · obtain ⟨c_8505, c_8506, c_8507, c_8508, c_8509, c_8510⟩ := hw
          exact absurd c_8510 c_8396
        · obtain ⟨c_8511, c_8512, c_8513, c_8514, c_8515, c_8516, c_8517, c_8518⟩ := hw
          exact absurd (c_8399 ▸ c_8518) (by decide)
        · obtain ⟨c_8519, c_8520, c_8521, c_8522, c_8523, c_8524, c_8525, c_8526, c_8527⟩ := hw
          exact absurd (c_8399 ▸ c_8527) (by decide)
        · obtain ⟨c_8528, c_8529, c_8530, c_8531, c_8532, c_8533, c_8534, c_8535, c_8536, c_8537⟩ := hw
          exact absurd (c_8401 ▸ c_8537) (by decide)
        · obtain ⟨c_8538, c_8539, c_8540, c_8541, c_8542, c_8543, c_8544, c_8545, c_8546, c_8547, c_8548⟩ := hw
          exact absurd (c_8401 ▸ c_8548) (by decide)
        · obtain ⟨c_8549, c_8550, c_8551, c_8552, c_8553⟩ := hw
          exact absurd c_8549 c_8390
        · obtain ⟨c_8554, c_8555, c_8556, c_8557, c_8558, c_8559⟩ := hw
          exact absurd c_8554 c_8390
        · obtain ⟨c_8560, c_8561, c_8562, c_8563, c_8564, c_8565, c_8566⟩ := hw
          exact absurd c_8560 c_8390
        · obtain ⟨c_8567, c_8568, c_8569, c_8570, c_8571, c_8572, c_8573, c_8574⟩ := hw
          exact absurd c_8567 c_8390
        · obtain ⟨c_8575, c_8576, c_8577, c_8578, c_8579⟩ := hw
          exact absurd c_8575 c_8389
        · obtain ⟨c_8580, c_8581, c_8582, c_8583, c_8584, c_8585⟩ := hw
          exact absurd c_8580 c_8389
        · obtain ⟨c_8586, c_8587, c_8588, c_8589, c_8590, c_8591, c_8592⟩ := hw
          exact absurd c_8586 c_8389
        · obtain ⟨c_8593, c_8594, c_8595, c_8596, c_8597, c_8598, c_8599, c_8600⟩ := hw
          exact absurd c_8593 c_8389
      · obtain ⟨rfl, rfl, hw⟩ := hw
        rcases hw with hw | hw | hw | hw | hw
        · obtain ⟨c_8601, c_8602, c_8603, c_8604, c_8605, c_8606, c_8607, c_8608⟩ := hw
          exact absurd (c_8391.symm.trans c_8601) (by decide)
        · obtain ⟨c_8609, c_8610, c_8611, c_8612, c_8613, c_8614, c_8615, c_8616, c_8617, c_8618⟩ := hw
          exact absurd (c_8391.symm.trans c_8609) (by decide)
        · obtain ⟨c_8619, c_8620, c_8621, c_8622, c_8623, c_8624, c_8625, c_8626, c_8627, c_8628, c_8629⟩ := hw
          obtain ⟨hP1, hD1⟩ := hB
          rw [ht1] at hP1
          obtain ⟨hP, hD⟩ := va_join (wr := [(o1, .inl (g 1, 1, .inr (.inl (fun _ => 0))))]) (w1 := [((a 200), .inr (21, [.int 2, .ref (a 201), .ref (a 202), .ref (a 203), .ref (a 204), .ref (a 205), .ref (a 206), .int 0, .int 0, .int 0, .int 0, .ref (a 208), .ref (a 209), .ref (a 210), .ref (a 211), .ref (a 212), .int 4, .int 12, .int (-1), .int 0, .ref (g 200), .ref (a 213), .int 0, .int 97, .ref (a 214), .ref (a 215), .ref (a 207), .null, .int 0]))]) hP hD [0] [1] rfl rfl (by decide) (by decide) hk1 hFc hP1 hD1
          have hP : va_P D vwCl [(o1, .inl (g 1, 1, .inr (.inl (fun _ => 0)))), ((a 200), .inr (21, [.int 2, .ref (a 201), .ref (a 202), .ref (a 203), .ref (a 204), .ref (a 205), .ref (a 206), .int 0, .int 0, .int 0, .int 0, .ref (a 208), .ref (a 209), .ref (a 210), .ref (a 211), .ref (a 212), .int 4, .int 12, .int (-1), .int 0, .ref (g 200), .ref (a 213), .int 0, .int 97, .ref (a 214), .ref (a 215), .ref (a 207), .null, .int 0]))] H := hP
          have hD : va_D (va_A [] s.heap.size) [(o1, .inl (g 1, 1, .inr (.inl (fun _ => 0)))), ((a 200), .inr (21, [.int 2, .ref (a 201), .ref (a 202), .ref (a 203), .ref (a 204), .ref (a 205), .ref (a 206), .int 0, .int 0, .int 0, .int 0, .ref (a 208), .ref (a 209), .ref (a 210), .ref (a 211), .ref (a 212), .int 4, .int 12, .int (-1), .int 0, .ref (g 200), .ref (a 213), .int 0, .int 97, .ref (a 214), .ref (a 215), .ref (a 207), .null, .int 0]))] := hD
          refine lv_istore (lv' := [(7, .int 0), (6, .int 2), (0, .ref b), (1, .ref (a 0)), (2, .ref (a 200)), (3, .ref o1), (4, .ref o2), (5, .int 0)]) hx hb dL_law_3285 hl (by decide) rfl (fun ls hl => ?_)
          refine lv_aload_n hx hb dL_law_3287 rfl (lv_at hl 4 rfl) ?_
          have hPc : va_P D vwCl [((a 200), .inr (21, [.int 2, .ref (a 201), .ref (a 202), .ref (a 203), .ref (a 204), .ref (a 205), .ref (a 206), .int 0, .int 0, .int 0, .int 0, .ref (a 208), .ref (a 209), .ref (a 210), .ref (a 211), .ref (a 212), .int 4, .int 12, .int (-1), .int 0, .ref (g 200), .ref (a 213), .int 0, .int 97, .ref (a 214), .ref (a 215), .ref (a 207), .null, .int 0]))] _ := hP.sub (ws' := [((a 200), .inr (21, [.int 2, .ref (a 201), .ref (a 202), .ref (a 203), .ref (a 204), .ref (a 205), .ref (a 206), .int 0, .int 0, .int 0, .int 0, .ref (a 208), .ref (a 209), .ref (a 210), .ref (a 211), .ref (a 212), .int 4, .int 12, .int (-1), .int 0, .ref (g 200), .ref (a 213), .int 0, .int 97, .ref (a 214), .ref (a 215), .ref (a 207), .null, .int 0]))]) [1] rfl
          have hDc : va_D (fun q => z0 ≤ q) [((a 200), .inr (21, [.int 2, .ref (a 201), .ref (a 202), .ref (a 203), .ref (a 204), .ref (a 205), .ref (a 206), .int 0, .int 0, .int 0, .int 0, .ref (a 208), .ref (a 209), .ref (a 210), .ref (a 211), .ref (a 212), .int 4, .int 12, .int (-1), .int 0, .ref (g 200), .ref (a 213), .int 0, .int 97, .ref (a 214), .ref (a 215), .ref (a 207), .null, .int 0]))] := (hD.to hAz).pick (ws' := [((a 200), .inr (21, [.int 2, .ref (a 201), .ref (a 202), .ref (a 203), .ref (a 204), .ref (a 205), .ref (a 206), .int 0, .int 0, .int 0, .int 0, .ref (a 208), .ref (a 209), .ref (a 210), .ref (a 211), .ref (a 212), .int 4, .int 12, .int (-1), .int 0, .ref (g 200), .ref (a 213), .int 0, .int 97, .ref (a 214), .ref (a 215), .ref (a 207), .null, .int 0]))]) [1] (by decide) rfl
          have hFc := va_free (wc := [((a 200), .inr (21, [.int 2, .ref (a 201), .ref (a 202), .ref (a 203), .ref (a 204), .ref (a 205), .ref (a 206), .int 0, .int 0, .int 0, .int 0, .ref (a 208), .ref (a 209), .ref (a 210), .ref (a 211), .ref (a 212), .int 4, .int 12, .int (-1), .int 0, .ref (g 200), .ref (a 213), .int 0, .int 97, .ref (a 214), .ref (a 215), .ref (a 207), .null, .int 0]))]) hD hS hA [1] rfl
          refine va_calli (va_runV (As := []) (rest := []) ⟨hx, hb, hml, hown, ht⟩ (k_X15_thrown_v1 l D g z0 _ a) (cwV 0 ht (gV w_772 w_774 w_775 w_334 w_773) rfl rfl rfl (by decide +kernel) (le2 rfl rfl)) ⟨PP.blind, va_recv hK.1 hP (ci := 21) (q0 := 1) rfl rfl, PP.mk' hK hZ hz hAz hS hPc hDc⟩ rfl rfl hl.1 rfl (lv_room (Nat.le_of_ble_eq_true rfl)) dL_law_3288 (le2 rfl rfl)) hS (fun q _ h => hFc q h) hFc (fun r u t H locs ht1 hvm hw hB hz1 hk1 hS => ?_)
          obtain ⟨rfl, hw⟩ := hw
          obtain ⟨hP1, hD1⟩ := hB
          rw [ht1] at hP1
          obtain ⟨hP, hD⟩ := va_join (wr := [(o1, .inl (g 1, 1, .inr (.inl (fun _ => 0))))]) (w1 := [((a 200), .inr (21, [.int 2, .ref (a 201), .ref (a 202), .ref (a 203), .ref (a 204), .ref (a 205), .ref (a 206), .int 0, .int 0, .int 0, .int 0, .ref (a 208), .ref (a 209), .ref (a 210), .ref (a 211), .ref (a 212), .int 4, .int 12, .int (-1), .int 0, .ref (g 200), .ref (a 213), .int 0, .int 97, .ref (a 214), .ref (a 215), .ref (a 207), .null, .int 0]))]) hP hD [1] [0] rfl rfl (by decide) (by decide) hk1 hFc hP1 hD1
          have hP : va_P D vwCl [(o1, .inl (g 1, 1, .inr (.inl (fun _ => 0)))), ((a 200), .inr (21, [.int 2, .ref (a 201), .ref (a 202), .ref (a 203), .ref (a 204), .ref (a 205), .ref (a 206), .int 0, .int 0, .int 0, .int 0, .ref (a 208), .ref (a 209), .ref (a 210), .ref (a 211), .ref (a 212), .int 4, .int 12, .int (-1), .int 0, .ref (g 200), .ref (a 213), .int 0, .int 97, .ref (a 214), .ref (a 215), .ref (a 207), .null, .int 0]))] H := hP
          have hD : va_D (va_A [] s.heap.size) [(o1, .inl (g 1, 1, .inr (.inl (fun _ => 0)))), ((a 200), .inr (21, [.int 2, .ref (a 201), .ref (a 202), .ref (a 203), .ref (a 204), .ref (a 205), .ref (a 206), .int 0, .int 0, .int 0, .int 0, .ref (a 208), .ref (a 209), .ref (a 210), .ref (a 211), .ref (a 212), .int 4, .int 12, .int (-1), .int 0, .ref (g 200), .ref (a 213), .int 0, .int 97, .ref (a 214), .ref (a 215), .ref (a 207), .null, .int 0]))] := hD
          refine lv_iload hx hb dL_law_3291 (lv_at hl 1 rfl) ?_
          refine lv_icmp_eq (tgt := 3298) hx hb dL_law_3293 (by decide) (fun c_8630 => ?_) (fun c_8630 => ?_)
          · refine lv_iload hx hb dL_law_3298 (lv_at hl 1 rfl) ?_
            refine lv_if_ne (tgt := 3322) hx hb dL_law_3300 (by decide) (fun c_8631 => ?_) (fun c_8631 => ?_)
            · refine lv_goto (tgt := 4264) hx hb dL_law_3322 (by decide) ?_
              refine W.widen (k := 200 + 300) (n := 8000 + 2000) (Nat.le_of_ble_eq_true rfl) (Nat.le_of_ble_eq_true rfl) ?_
              exact kk _ _ _ hS (lv_sub hl [7, 2] rfl)
            · exact absurd c_8631 (by decide)
          · exact absurd c_8630 (by decide)
        · obtain ⟨c_8632, c_8633, c_8634, c_8635, c_8636, c_8637, c_8638, c_8639⟩ := hw
          exact absurd c_8632 c_8390
        · obtain ⟨c_8640, c_8641, c_8642, c_8643, c_8644, c_8645, c_8646, c_8647⟩ := hw
          exact absurd c_8640 c_8389
    · obtain ⟨c_8648, c_8649, c_8650, c_8651, c_8652, c_8653, c_8654, c_8655, c_8656, c_8657, c_8658⟩ := hw
      obtain ⟨hP1, hD1⟩ := hB
      rw [ht1] at hP1
      obtain ⟨hP, hD⟩ := va_join (wr := [((a 200), f_m a g)]) (w1 := [(o1, .inl (g 1, 1, .inr (.inl (fun _ => 0))))]) hP hD [3, 0, 1] [2] rfl rfl (by decide) (by decide) hk1 hFc hP1 hD1
      have hP : va_P D vwCl [((a 200), f_m a g), (o1, .inl (g 1, 1, .inr (.inl (fun _ => 0))))] H := hP
      have hD : va_D (va_A [] s.heap.size) [((a 200), f_m a g), (o1, .inl (g 1, 1, .inr (.inl (fun _ => 0))))] := hD
      refine lv_istore (lv' := [(6, .int 2), (0, .ref b), (1, .ref (a 0)), (2, .ref (a 200)), (3, .ref o1), (4, .ref o2), (5, .int 0)]) hx hb dL_law_3248 hl (by decide) rfl (fun ls hl => ?_)
      refine lv_aload_n hx hb dL_law_3250 rfl (lv_at hl 3 rfl) ?_
      refine lv_aload_n hx hb dL_law_3251 rfl (lv_at hl 1 rfl) ?_
      refine lv_iload hx hb dL_law_3252 (lv_at hl 6 rfl) ?_
      refine lv_iconst (v := 1) hx hb dL_law_3254 (by decide) ?_
      refine lv_iadd hx hb dL_law_3255 ?_
      refine r_topi (v := 1) (by decide) ?_
      refine va_sld hx hb hX hbl hbA hS (by unfold vp_in; decide) dL_law_3256 ?_
      refine r_topi (v := xs 1) (congrArg xs (by decide)) ?_
      refine lv_i2c (v := ((xs 1).toUInt32 % 65536).toInt32) hx hb dL_law_3257 rfl ?_
      refine lv_aload_n hx hb dL_law_3258 rfl (lv_at hl 1 rfl) ?_
      refine lv_iload hx hb dL_law_3259 (lv_at hl 6 rfl) ?_
      refine lv_iconst (v := 2) hx hb dL_law_3261 (by decide) ?_
      refine lv_iadd hx hb dL_law_3262 ?_
      refine r_topi (v := 2) (by decide) ?_
      refine va_sld hx hb hX hbl hbA hS (by unfold vp_in; decide) dL_law_3263 ?_
      refine r_topi (v := xs 2) (congrArg xs (by decide)) ?_
      refine lv_aload_n hx hb dL_law_3264 rfl (lv_at hl 1 rfl) ?_
      refine lv_iload hx hb dL_law_3265 (lv_at hl 6 rfl) ?_
      refine lv_iconst (v := 3) hx hb dL_law_3267 (by decide) ?_
      refine lv_iadd hx hb dL_law_3268 ?_
      refine r_topi (v := 3) (by decide) ?_
      refine va_sld hx hb hX hbl hbA hS (by unfold vp_in; decide) dL_law_3269 ?_
      refine r_topi (v := xs 3) (congrArg xs (by decide)) ?_
      refine lv_aload_n hx hb dL_law_3270 rfl (lv_at hl 1 rfl) ?_
      refine lv_iload hx hb dL_law_3271 (lv_at hl 6 rfl) ?_
      refine lv_iconst (v := 4) hx hb dL_law_3273 (by decide) ?_
      refine lv_iadd hx hb dL_law_3274 ?_
      refine r_topi (v := 4) (by decide) ?_
      refine va_sld hx hb hX hbl hbA hS (by unfold vp_in; decide) dL_law_3275 ?_
      refine r_topi (v := xs 4) (congrArg xs (by decide)) ?_
      refine lv_aload_n hx hb dL_law_3276 rfl (lv_at hl 1 rfl) ?_
      refine lv_iload hx hb dL_law_3277 (lv_at hl 6 rfl) ?_
      refine lv_iconst (v := 5) hx hb dL_law_3279 (by decide) ?_
      refine lv_iadd hx hb dL_law_3280 ?_
      refine r_topi (v := 5) (by decide) ?_
      refine va_sld hx hb hX hbl hbA hS (by unfold vp_in; decide) dL_law_3281 ?_
      refine r_topi (v := xs 5) (congrArg xs (by decide)) ?_
      have hPc : va_P D vwCl [((a 200), f_m a g)] _ := hP.sub (ws' := [((a 200), f_m a g)]) [0] rfl
      have hDc : va_D (fun q => z0 ≤ q) [((a 200), f_m a g)] := (hD.to hAz).pick (ws' := [((a 200), f_m a g)]) [0] (by decide) rfl
      have hFc := va_free (wc := [((a 200), f_m a g)]) hD hS hA [0] rfl
      refine va_calli (va_runV (As := [.int (((xs 1).toUInt32 % 65536).toInt32), .int (xs 2), .int (xs 3), .int (xs 4), .int (xs 5)]) (rest := []) ⟨hx, hb, hml, hown, ht⟩ (k_X15_marchFinds l D g z0 _ a (((xs 1).toUInt32 % 65536).toInt32) (xs 2) (xs 3) (xs 4) (xs 5) (isC_i2c _)) (cwV 5 ht (gV w_1231 w_1233 w_1234 w_334 w_1232) rfl rfl rfl (by decide +kernel) (le2 rfl rfl)) ⟨PP.blind, va_recv hK.1 hP (ci := 21) (q0 := 0) rfl rfl, PP.mk' hK hZ hz hAz hS hPc hDc⟩ rfl rfl hl.1 rfl (lv_room (Nat.le_of_ble_eq_true rfl)) dL_law_3282 (le2 rfl rfl)) hS (fun q _ h => hFc q h) hFc (fun r u t H locs ht1 hvm hw hB hz1 hk1 hS => ?_)
      rcases hw with hw | hw
      · obtain ⟨rfl, rfl, hw⟩ := hw
        rcases hw with hw | hw | hw | hw | hw | hw | hw | hw | hw | hw | hw | hw | hw | hw | hw | hw | hw | hw | hw | hw | hw | hw | hw | hw | hw | hw | hw | hw | hw | hw | hw | hw
        · obtain ⟨c_8659, c_8660, c_8661, c_8662, c_8663⟩ := hw
          exact absurd c_8651 c_8662
        · obtain ⟨c_8664, c_8665, c_8666, c_8667, c_8668⟩ := hw
          exact absurd c_8651 c_8667
        · obtain ⟨c_8669, c_8670, c_8671, c_8672, c_8673⟩ := hw
          exact absurd c_8651 c_8672
        · obtain ⟨c_8674, c_8675, c_8676, c_8677⟩ := hw
          exact absurd (c_8651.symm.trans c_8674) (by decide)
        · obtain ⟨c_8678, c_8679, c_8680, c_8681, c_8682⟩ := hw
          exact absurd (c_8651.symm.trans c_8678) (by decide)
        · obtain ⟨c_8683, c_8684, c_8685, c_8686, c_8687, c_8688⟩ := hw
          exact absurd (c_8651.symm.trans c_8683) (by decide)
        · obtain ⟨c_8689, c_8690, c_8691, c_8692, c_8693, c_8694, c_8695⟩ := hw
          exact absurd (c_8651.symm.trans c_8689) (by decide)
        · obtain ⟨c_8696, c_8697, c_8698, c_8699, c_8700, c_8701, c_8702, c_8703⟩ := hw
          exact absurd (c_8651.symm.trans c_8696) (by decide)
        · obtain ⟨c_8704, c_8705, c_8706⟩ := hw
          exact absurd c_8706 c_8652
        · obtain ⟨c_8707, c_8708, c_8709, c_8710⟩ := hw
          exact absurd (Int.le_trans (lo_lt c_8710) (up_lt c_8653)) (by decide)
        · obtain ⟨c_8711, c_8712, c_8713, c_8714, c_8715⟩ := hw
          exact absurd c_8715 c_8654
        · obtain ⟨c_8716, c_8717, c_8718, c_8719, c_8720, c_8721⟩ := hw
          exact absurd (Int.le_trans (lo_lt c_8721) (up_nle c_8655)) (by decide)
        · obtain ⟨c_8722, c_8723, c_8724, c_8725, c_8726, c_8727, c_8728⟩ := hw
          exact absurd c_8728 c_8656
        · obtain ⟨c_8729, c_8730, c_8731, c_8732, c_8733, c_8734, c_8735, c_8736, c_8737⟩ := hw
          exact absurd (c_8658 ▸ c_8737) (by decide)
        · obtain ⟨c_8738, c_8739, c_8740, c_8741, c_8742, c_8743, c_8744, c_8745, c_8746, c_8747⟩ := hw
          exact absurd (c_8658 ▸ c_8747) (by decide)
        · obtain ⟨c_8748, c_8749⟩ := hw
          exact absurd c_8748 c_8650
        · obtain ⟨c_8750, c_8751, c_8752⟩ := hw
          exact absurd c_8750 c_8650
        · obtain ⟨c_8753, c_8754, c_8755, c_8756⟩ := hw
          exact absurd c_8753 c_8650
        · obtain ⟨c_8757, c_8758, c_8759, c_8760, c_8761⟩ := hw
          exact absurd c_8757 c_8650
        · obtain ⟨c_8762, c_8763, c_8764, c_8765, c_8766, c_8767⟩ := hw
          exact absurd c_8762 c_8650
        · obtain ⟨c_8768, c_8769, c_8770, c_8771, c_8772, c_8773, c_8774, c_8775⟩ := hw
          exact absurd c_8768 c_8650
        · obtain ⟨c_8776, c_8777, c_8778, c_8779, c_8780, c_8781, c_8782, c_8783, c_8784⟩ := hw
          exact absurd c_8776 c_8650
        · obtain ⟨c_8785, c_8786, c_8787, c_8788, c_8789, c_8790, c_8791, c_8792, c_8793, c_8794⟩ := hw
          exact absurd c_8785 c_8650
        · obtain ⟨c_8795, c_8796, c_8797, c_8798, c_8799, c_8800, c_8801, c_8802, c_8803, c_8804, c_8805⟩ := hw
          exact absurd c_8795 c_8650
        · obtain ⟨c_8806, c_8807, c_8808, c_8809, c_8810⟩ := hw
          exact absurd c_8806 c_8649
        · obtain ⟨c_8811, c_8812, c_8813, c_8814, c_8815, c_8816⟩ := hw
          exact absurd c_8811 c_8649
        · obtain ⟨c_8817, c_8818, c_8819, c_8820, c_8821, c_8822, c_8823⟩ := hw
          exact absurd c_8817 c_8649
        · obtain ⟨c_8824, c_8825, c_8826, c_8827, c_8828, c_8829, c_8830, c_8831⟩ := hw
          exact absurd c_8824 c_8649
        · obtain ⟨c_8832, c_8833, c_8834, c_8835, c_8836⟩ := hw
          exact absurd c_8832 c_8648
        · obtain ⟨c_8837, c_8838, c_8839, c_8840, c_8841, c_8842⟩ := hw
          exact absurd c_8837 c_8648
        · obtain ⟨c_8843, c_8844, c_8845, c_8846, c_8847, c_8848, c_8849⟩ := hw
          exact absurd c_8843 c_8648
        · obtain ⟨c_8850, c_8851, c_8852, c_8853, c_8854, c_8855, c_8856, c_8857⟩ := hw
          exact absurd c_8850 c_8648
      · obtain ⟨rfl, rfl, hw⟩ := hw
        rcases hw with hw | hw | hw | hw | hw
        · obtain ⟨c_8858, c_8859, c_8860, c_8861, c_8862, c_8863, c_8864, c_8865⟩ := hw
          exact absurd (c_8651.symm.trans c_8858) (by decide)
        · obtain ⟨c_8866, c_8867, c_8868, c_8869, c_8870, c_8871, c_8872, c_8873, c_8874, c_8875⟩ := hw
          obtain ⟨hP1, hD1⟩ := hB
          rw [ht1] at hP1
          obtain ⟨hP, hD⟩ := va_join (wr := [(o1, .inl (g 1, 1, .inr (.inl (fun _ => 0))))]) (w1 := [((a 200), .inr (21, [.int 2, .ref (a 201), .ref (a 202), .ref (a 203), .ref (a 204), .ref (a 205), .ref (a 206), .int 0, .int 0, .int 0, .int 0, .ref (a 208), .ref (a 209), .ref (a 210), .ref (a 211), .ref (a 212), .int 4, .int 12, .int (-1), .int 0, .ref (g 200), .ref (a 213), .int 0, .int 97, .ref (a 214), .ref (a 215), .ref (a 207), .null, .int 0]))]) hP hD [0] [1] rfl rfl (by decide) (by decide) hk1 hFc hP1 hD1
          have hP : va_P D vwCl [(o1, .inl (g 1, 1, .inr (.inl (fun _ => 0)))), ((a 200), .inr (21, [.int 2, .ref (a 201), .ref (a 202), .ref (a 203), .ref (a 204), .ref (a 205), .ref (a 206), .int 0, .int 0, .int 0, .int 0, .ref (a 208), .ref (a 209), .ref (a 210), .ref (a 211), .ref (a 212), .int 4, .int 12, .int (-1), .int 0, .ref (g 200), .ref (a 213), .int 0, .int 97, .ref (a 214), .ref (a 215), .ref (a 207), .null, .int 0]))] H := hP
          have hD : va_D (va_A [] s.heap.size) [(o1, .inl (g 1, 1, .inr (.inl (fun _ => 0)))), ((a 200), .inr (21, [.int 2, .ref (a 201), .ref (a 202), .ref (a 203), .ref (a 204), .ref (a 205), .ref (a 206), .int 0, .int 0, .int 0, .int 0, .ref (a 208), .ref (a 209), .ref (a 210), .ref (a 211), .ref (a 212), .int 4, .int 12, .int (-1), .int 0, .ref (g 200), .ref (a 213), .int 0, .int 97, .ref (a 214), .ref (a 215), .ref (a 207), .null, .int 0]))] := hD
          refine lv_istore (lv' := [(7, .int 0), (6, .int 2), (0, .ref b), (1, .ref (a 0)), (2, .ref (a 200)), (3, .ref o1), (4, .ref o2), (5, .int 0)]) hx hb dL_law_3285 hl (by decide) rfl (fun ls hl => ?_)
          refine lv_aload_n hx hb dL_law_3287 rfl (lv_at hl 4 rfl) ?_
          have hPc : va_P D vwCl [((a 200), .inr (21, [.int 2, .ref (a 201), .ref (a 202), .ref (a 203), .ref (a 204), .ref (a 205), .ref (a 206), .int 0, .int 0, .int 0, .int 0, .ref (a 208), .ref (a 209), .ref (a 210), .ref (a 211), .ref (a 212), .int 4, .int 12, .int (-1), .int 0, .ref (g 200), .ref (a 213), .int 0, .int 97, .ref (a 214), .ref (a 215), .ref (a 207), .null, .int 0]))] _ := hP.sub (ws' := [((a 200), .inr (21, [.int 2, .ref (a 201), .ref (a 202), .ref (a 203), .ref (a 204), .ref (a 205), .ref (a 206), .int 0, .int 0, .int 0, .int 0, .ref (a 208), .ref (a 209), .ref (a 210), .ref (a 211), .ref (a 212), .int 4, .int 12, .int (-1), .int 0, .ref (g 200), .ref (a 213), .int 0, .int 97, .ref (a 214), .ref (a 215), .ref (a 207), .null, .int 0]))]) [1] rfl
          have hDc : va_D (fun q => z0 ≤ q) [((a 200), .inr (21, [.int 2, .ref (a 201), .ref (a 202), .ref (a 203), .ref (a 204), .ref (a 205), .ref (a 206), .int 0, .int 0, .int 0, .int 0, .ref (a 208), .ref (a 209), .ref (a 210), .ref (a 211), .ref (a 212), .int 4, .int 12, .int (-1), .int 0, .ref (g 200), .ref (a 213), .int 0, .int 97, .ref (a 214), .ref (a 215), .ref (a 207), .null, .int 0]))] := (hD.to hAz).pick (ws' := [((a 200), .inr (21, [.int 2, .ref (a 201), .ref (a 202), .ref (a 203), .ref (a 204), .ref (a 205), .ref (a 206), .int 0, .int 0, .int 0, .int 0, .ref (a 208), .ref (a 209), .ref (a 210), .ref (a 211), .ref (a 212), .int 4, .int 12, .int (-1), .int 0, .ref (g 200), .ref (a 213), .int 0, .int 97, .ref (a 214), .ref (a 215), .ref (a 207), .null, .int 0]))]) [1] (by decide) rfl
          have hFc := va_free (wc := [((a 200), .inr (21, [.int 2, .ref (a 201), .ref (a 202), .ref (a 203), .ref (a 204), .ref (a 205), .ref (a 206), .int 0, .int 0, .int 0, .int 0, .ref (a 208), .ref (a 209), .ref (a 210), .ref (a 211), .ref (a 212), .int 4, .int 12, .int (-1), .int 0, .ref (g 200), .ref (a 213), .int 0, .int 97, .ref (a 214), .ref (a 215), .ref (a 207), .null, .int 0]))]) hD hS hA [1] rfl
          refine va_calli (va_runV (As := []) (rest := []) ⟨hx, hb, hml, hown, ht⟩ (k_X15_thrown_v1 l D g z0 _ a) (cwV 0 ht (gV w_772 w_774 w_775 w_334 w_773) rfl rfl rfl (by decide +kernel) (le2 rfl rfl)) ⟨PP.blind, va_recv hK.1 hP (ci := 21) (q0 := 1) rfl rfl, PP.mk' hK hZ hz hAz hS hPc hDc⟩ rfl rfl hl.1 rfl (lv_room (Nat.le_of_ble_eq_true rfl)) dL_law_3288 (le2 rfl rfl)) hS (fun q _ h => hFc q h) hFc (fun r u t H locs ht1 hvm hw hB hz1 hk1 hS => ?_)
          obtain ⟨rfl, hw⟩ := hw
          obtain ⟨hP1, hD1⟩ := hB
          rw [ht1] at hP1
          obtain ⟨hP, hD⟩ := va_join (wr := [(o1, .inl (g 1, 1, .inr (.inl (fun _ => 0))))]) (w1 := [((a 200), .inr (21, [.int 2, .ref (a 201), .ref (a 202), .ref (a 203), .ref (a 204), .ref (a 205), .ref (a 206), .int 0, .int 0, .int 0, .int 0, .ref (a 208), .ref (a 209), .ref (a 210), .ref (a 211), .ref (a 212), .int 4, .int 12, .int (-1), .int 0, .ref (g 200), .ref (a 213), .int 0, .int 97, .ref (a 214), .ref (a 215), .ref (a 207), .null, .int 0]))]) hP hD [1] [0] rfl rfl (by decide) (by decide) hk1 hFc hP1 hD1
          have hP : va_P D vwCl [(o1, .inl (g 1, 1, .inr (.inl (fun _ => 0)))), ((a 200), .inr (21, [.int 2, .ref (a 201), .ref (a 202), .ref (a 203), .ref (a 204), .ref (a 205), .ref (a 206), .int 0, .int 0, .int 0, .int 0, .ref (a 208), .ref (a 209), .ref (a 210), .ref (a 211), .ref (a 212), .int 4, .int 12, .int (-1), .int 0, .ref (g 200), .ref (a 213), .int 0, .int 97, .ref (a 214), .ref (a 215), .ref (a 207), .null, .int 0]))] H := hP
          have hD : va_D (va_A [] s.heap.size) [(o1, .inl (g 1, 1, .inr (.inl (fun _ => 0)))), ((a 200), .inr (21, [.int 2, .ref (a 201), .ref (a 202), .ref (a 203), .ref (a 204), .ref (a 205), .ref (a 206), .int 0, .int 0, .int 0, .int 0, .ref (a 208), .ref (a 209), .ref (a 210), .ref (a 211), .ref (a 212), .int 4, .int 12, .int (-1), .int 0, .ref (g 200), .ref (a 213), .int 0, .int 97, .ref (a 214), .ref (a 215), .ref (a 207), .null, .int 0]))] := hD
          refine lv_iload hx hb dL_law_3291 (lv_at hl 1 rfl) ?_
          refine lv_icmp_eq (tgt := 3298) hx hb dL_law_3293 (by decide) (fun c_8876 => ?_) (fun c_8876 => ?_)
          · refine lv_iload hx hb dL_law_3298 (lv_at hl 1 rfl) ?_
            refine lv_if_ne (tgt := 3322) hx hb dL_law_3300 (by decide) (fun c_8877 => ?_) (fun c_8877 => ?_)
            · refine lv_goto (tgt := 4264) hx hb dL_law_3322 (by decide) ?_
              refine W.widen (k := 200 + 300) (n := 8000 + 2000) (Nat.le_of_ble_eq_true rfl) (Nat.le_of_ble_eq_true rfl) ?_
              exact kk _ _ _ hS (lv_sub hl [7, 2] rfl)
            · exact absurd c_8877 (by decide)
          · exact absurd c_8876 (by decide)
        · obtain ⟨c_8878, c_8879, c_8880, c_8881, c_8882, c_8883, c_8884, c_8885, c_8886, c_8887, c_8888⟩ := hw
          exact absurd c_8878 c_8650
        · obtain ⟨c_8889, c_8890, c_8891, c_8892, c_8893, c_8894, c_8895, c_8896⟩ := hw
          exact absurd c_8889 c_8649
        · obtain ⟨c_8897, c_8898, c_8899, c_8900, c_8901, c_8902, c_8903, c_8904⟩ := hw
          exact absurd c_8897 c_8648
    · obtain ⟨c_8905, c_8906, c_8907, c_8908, c_8909, c_8910, c_8911, c_8912, c_8913, c_8914, c_8915, c_8916⟩ := hw
      obtain ⟨hP1, hD1⟩ := hB
      rw [ht1] at hP1
      obtain ⟨hP, hD⟩ := va_join (wr := [((a 200), f_m a g)]) (w1 := [(o1, .inl (g 1, 1, .inr (.inl (fun _ => 0))))]) hP hD [3, 0, 1] [2] rfl rfl (by decide) (by decide) hk1 hFc hP1 hD1
      have hP : va_P D vwCl [((a 200), f_m a g), (o1, .inl (g 1, 1, .inr (.inl (fun _ => 0))))] H := hP
      have hD : va_D (va_A [] s.heap.size) [((a 200), f_m a g), (o1, .inl (g 1, 1, .inr (.inl (fun _ => 0))))] := hD
      refine lv_istore (lv' := [(6, .int 2), (0, .ref b), (1, .ref (a 0)), (2, .ref (a 200)), (3, .ref o1), (4, .ref o2), (5, .int 0)]) hx hb dL_law_3248 hl (by decide) rfl (fun ls hl => ?_)
      refine lv_aload_n hx hb dL_law_3250 rfl (lv_at hl 3 rfl) ?_
      refine lv_aload_n hx hb dL_law_3251 rfl (lv_at hl 1 rfl) ?_
      refine lv_iload hx hb dL_law_3252 (lv_at hl 6 rfl) ?_
      refine lv_iconst (v := 1) hx hb dL_law_3254 (by decide) ?_
      refine lv_iadd hx hb dL_law_3255 ?_
      refine r_topi (v := 1) (by decide) ?_
      refine va_sld hx hb hX hbl hbA hS (by unfold vp_in; decide) dL_law_3256 ?_
      refine r_topi (v := xs 1) (congrArg xs (by decide)) ?_
      refine lv_i2c (v := ((xs 1).toUInt32 % 65536).toInt32) hx hb dL_law_3257 rfl ?_
      refine lv_aload_n hx hb dL_law_3258 rfl (lv_at hl 1 rfl) ?_
      refine lv_iload hx hb dL_law_3259 (lv_at hl 6 rfl) ?_
      refine lv_iconst (v := 2) hx hb dL_law_3261 (by decide) ?_
      refine lv_iadd hx hb dL_law_3262 ?_
      refine r_topi (v := 2) (by decide) ?_
      refine va_sld hx hb hX hbl hbA hS (by unfold vp_in; decide) dL_law_3263 ?_
      refine r_topi (v := xs 2) (congrArg xs (by decide)) ?_
      refine lv_aload_n hx hb dL_law_3264 rfl (lv_at hl 1 rfl) ?_
      refine lv_iload hx hb dL_law_3265 (lv_at hl 6 rfl) ?_
      refine lv_iconst (v := 3) hx hb dL_law_3267 (by decide) ?_
      refine lv_iadd hx hb dL_law_3268 ?_
      refine r_topi (v := 3) (by decide) ?_
      refine va_sld hx hb hX hbl hbA hS (by unfold vp_in; decide) dL_law_3269 ?_
      refine r_topi (v := xs 3) (congrArg xs (by decide)) ?_
      refine lv_aload_n hx hb dL_law_3270 rfl (lv_at hl 1 rfl) ?_
      refine lv_iload hx hb dL_law_3271 (lv_at hl 6 rfl) ?_
      refine lv_iconst (v := 4) hx hb dL_law_3273 (by decide) ?_
      refine lv_iadd hx hb dL_law_3274 ?_
      refine r_topi (v := 4) (by decide) ?_
      refine va_sld hx hb hX hbl hbA hS (by unfold vp_in; decide) dL_law_3275 ?_
      refine r_topi (v := xs 4) (congrArg xs (by decide)) ?_
      refine lv_aload_n hx hb dL_law_3276 rfl (lv_at hl 1 rfl) ?_
      refine lv_iload hx hb dL_law_3277 (lv_at hl 6 rfl) ?_
      refine lv_iconst (v := 5) hx hb dL_law_3279 (by decide) ?_
      refine lv_iadd hx hb dL_law_3280 ?_
      refine r_topi (v := 5) (by decide) ?_
      refine va_sld hx hb hX hbl hbA hS (by unfold vp_in; decide) dL_law_3281 ?_
      refine r_topi (v := xs 5) (congrArg xs (by decide)) ?_
      have hPc : va_P D vwCl [((a 200), f_m a g)] _ := hP.sub (ws' := [((a 200), f_m a g)]) [0] rfl
      have hDc : va_D (fun q => z0 ≤ q) [((a 200), f_m a g)] := (hD.to hAz).pick (ws' := [((a 200), f_m a g)]) [0] (by decide) rfl
      have hFc := va_free (wc := [((a 200), f_m a g)]) hD hS hA [0] rfl
      refine va_calli (va_runV (As := [.int (((xs 1).toUInt32 % 65536).toInt32), .int (xs 2), .int (xs 3), .int (xs 4), .int (xs 5)]) (rest := []) ⟨hx, hb, hml, hown, ht⟩ (k_X15_marchFinds l D g z0 _ a (((xs 1).toUInt32 % 65536).toInt32) (xs 2) (xs 3) (xs 4) (xs 5) (isC_i2c _)) (cwV 5 ht (gV w_1231 w_1233 w_1234 w_334 w_1232) rfl rfl rfl (by decide +kernel) (le2 rfl rfl)) ⟨PP.blind, va_recv hK.1 hP (ci := 21) (q0 := 0) rfl rfl, PP.mk' hK hZ hz hAz hS hPc hDc⟩ rfl rfl hl.1 rfl (lv_room (Nat.le_of_ble_eq_true rfl)) dL_law_3282 (le2 rfl rfl)) hS (fun q _ h => hFc q h) hFc (fun r u t H locs ht1 hvm hw hB hz1 hk1 hS => ?_)
      rcases hw with hw | hw
      · obtain ⟨rfl, rfl, hw⟩ := hw
        rcases hw with hw | hw | hw | hw | hw | hw | hw | hw | hw | hw | hw | hw | hw | hw | hw | hw | hw | hw | hw | hw | hw | hw | hw | hw | hw | hw | hw | hw | hw | hw | hw | hw
        · obtain ⟨c_8917, c_8918, c_8919, c_8920, c_8921⟩ := hw
          exact absurd c_8908 c_8920
        · obtain ⟨c_8922, c_8923, c_8924, c_8925, c_8926⟩ := hw
          exact absurd c_8908 c_8925
        · obtain ⟨c_8927, c_8928, c_8929, c_8930, c_8931⟩ := hw
          exact absurd c_8908 c_8930
        · obtain ⟨c_8932, c_8933, c_8934, c_8935⟩ := hw
          exact absurd (c_8908.symm.trans c_8932) (by decide)
        · obtain ⟨c_8936, c_8937, c_8938, c_8939, c_8940⟩ := hw
          exact absurd (c_8908.symm.trans c_8936) (by decide)
        · obtain ⟨c_8941, c_8942, c_8943, c_8944, c_8945, c_8946⟩ := hw
          exact absurd (c_8908.symm.trans c_8941) (by decide)
        · obtain ⟨c_8947, c_8948, c_8949, c_8950, c_8951, c_8952, c_8953⟩ := hw
          exact absurd (c_8908.symm.trans c_8947) (by decide)
        · obtain ⟨c_8954, c_8955, c_8956, c_8957, c_8958, c_8959, c_8960, c_8961⟩ := hw
          exact absurd (c_8908.symm.trans c_8954) (by decide)
        · obtain ⟨c_8962, c_8963, c_8964⟩ := hw
          exact absurd c_8964 c_8909
        · obtain ⟨c_8965, c_8966, c_8967, c_8968⟩ := hw
          exact absurd (Int.le_trans (lo_lt c_8968) (up_lt c_8910)) (by decide)
        · obtain ⟨c_8969, c_8970, c_8971, c_8972, c_8973⟩ := hw
          exact absurd c_8973 c_8911
        · obtain ⟨c_8974, c_8975, c_8976, c_8977, c_8978, c_8979⟩ := hw
          exact absurd (Int.le_trans (lo_lt c_8979) (up_nle c_8912)) (by decide)
        · obtain ⟨c_8980, c_8981, c_8982, c_8983, c_8984, c_8985, c_8986⟩ := hw
          exact absurd c_8986 c_8913
        · obtain ⟨c_8987, c_8988, c_8989, c_8990, c_8991, c_8992, c_8993, c_8994, c_8995⟩ := hw
          exact absurd (c_8916 ▸ c_8995) (by decide)
        · obtain ⟨c_8996, c_8997, c_8998, c_8999, c_9000, c_9001, c_9002, c_9003, c_9004, c_9005⟩ := hw
          exact absurd (c_8916 ▸ c_9005) (by decide)
        · obtain ⟨c_9006, c_9007⟩ := hw
          exact absurd c_9006 c_8907
        · obtain ⟨c_9008, c_9009, c_9010⟩ := hw
          exact absurd c_9008 c_8907
        · obtain ⟨c_9011, c_9012, c_9013, c_9014⟩ := hw
          exact absurd c_9011 c_8907
        · obtain ⟨c_9015, c_9016, c_9017, c_9018, c_9019⟩ := hw
          exact absurd c_9015 c_8907
        · obtain ⟨c_9020, c_9021, c_9022, c_9023, c_9024, c_9025⟩ := hw
          exact absurd c_9020 c_8907
        · obtain ⟨c_9026, c_9027, c_9028, c_9029, c_9030, c_9031, c_9032, c_9033⟩ := hw
          exact absurd c_9026 c_8907
        · obtain ⟨c_9034, c_9035, c_9036, c_9037, c_9038, c_9039, c_9040, c_9041, c_9042⟩ := hw
          exact absurd c_9034 c_8907
        · obtain ⟨c_9043, c_9044, c_9045, c_9046, c_9047, c_9048, c_9049, c_9050, c_9051, c_9052⟩ := hw
          exact absurd c_9043 c_8907
        · obtain ⟨c_9053, c_9054, c_9055, c_9056, c_9057, c_9058, c_9059, c_9060, c_9061, c_9062, c_9063⟩ := hw
          exact absurd c_9053 c_8907
        · obtain ⟨c_9064, c_9065, c_9066, c_9067, c_9068⟩ := hw
          exact absurd c_9064 c_8906
        · obtain ⟨c_9069, c_9070, c_9071, c_9072, c_9073, c_9074⟩ := hw
          exact absurd c_9069 c_8906
        · obtain ⟨c_9075, c_9076, c_9077, c_9078, c_9079, c_9080, c_9081⟩ := hw
          exact absurd c_9075 c_8906
        · obtain ⟨c_9082, c_9083, c_9084, c_9085, c_9086, c_9087, c_9088, c_9089⟩ := hw
          exact absurd c_9082 c_8906
        · obtain ⟨c_9090, c_9091, c_9092, c_9093, c_9094⟩ := hw
          exact absurd c_9090 c_8905
        · obtain ⟨c_9095, c_9096, c_9097, c_9098, c_9099, c_9100⟩ := hw
          exact absurd c_9095 c_8905
        · obtain ⟨c_9101, c_9102, c_9103, c_9104, c_9105, c_9106, c_9107⟩ := hw
          exact absurd c_9101 c_8905
        · obtain ⟨c_9108, c_9109, c_9110, c_9111, c_9112, c_9113, c_9114, c_9115⟩ := hw
          exact absurd c_9108 c_8905
      · obtain ⟨rfl, rfl, hw⟩ := hw
        rcases hw with hw | hw | hw | hw | hw
        · obtain ⟨c_9116, c_9117, c_9118, c_9119, c_9120, c_9121, c_9122, c_9123⟩ := hw
          exact absurd (c_8908.symm.trans c_9116) (by decide)
        · obtain ⟨c_9124, c_9125, c_9126, c_9127, c_9128, c_9129, c_9130, c_9131, c_9132, c_9133⟩ := hw
          obtain ⟨hP1, hD1⟩ := hB
          rw [ht1] at hP1
          obtain ⟨hP, hD⟩ := va_join (wr := [(o1, .inl (g 1, 1, .inr (.inl (fun _ => 0))))]) (w1 := [((a 200), .inr (21, [.int 2, .ref (a 201), .ref (a 202), .ref (a 203), .ref (a 204), .ref (a 205), .ref (a 206), .int 0, .int 0, .int 0, .int 0, .ref (a 208), .ref (a 209), .ref (a 210), .ref (a 211), .ref (a 212), .int 4, .int 12, .int (-1), .int 0, .ref (g 200), .ref (a 213), .int 0, .int 97, .ref (a 214), .ref (a 215), .ref (a 207), .null, .int 0]))]) hP hD [0] [1] rfl rfl (by decide) (by decide) hk1 hFc hP1 hD1
          have hP : va_P D vwCl [(o1, .inl (g 1, 1, .inr (.inl (fun _ => 0)))), ((a 200), .inr (21, [.int 2, .ref (a 201), .ref (a 202), .ref (a 203), .ref (a 204), .ref (a 205), .ref (a 206), .int 0, .int 0, .int 0, .int 0, .ref (a 208), .ref (a 209), .ref (a 210), .ref (a 211), .ref (a 212), .int 4, .int 12, .int (-1), .int 0, .ref (g 200), .ref (a 213), .int 0, .int 97, .ref (a 214), .ref (a 215), .ref (a 207), .null, .int 0]))] H := hP
          have hD : va_D (va_A [] s.heap.size) [(o1, .inl (g 1, 1, .inr (.inl (fun _ => 0)))), ((a 200), .inr (21, [.int 2, .ref (a 201), .ref (a 202), .ref (a 203), .ref (a 204), .ref (a 205), .ref (a 206), .int 0, .int 0, .int 0, .int 0, .ref (a 208), .ref (a 209), .ref (a 210), .ref (a 211), .ref (a 212), .int 4, .int 12, .int (-1), .int 0, .ref (g 200), .ref (a 213), .int 0, .int 97, .ref (a 214), .ref (a 215), .ref (a 207), .null, .int 0]))] := hD
          refine lv_istore (lv' := [(7, .int 0), (6, .int 2), (0, .ref b), (1, .ref (a 0)), (2, .ref (a 200)), (3, .ref o1), (4, .ref o2), (5, .int 0)]) hx hb dL_law_3285 hl (by decide) rfl (fun ls hl => ?_)
          refine lv_aload_n hx hb dL_law_3287 rfl (lv_at hl 4 rfl) ?_
          have hPc : va_P D vwCl [((a 200), .inr (21, [.int 2, .ref (a 201), .ref (a 202), .ref (a 203), .ref (a 204), .ref (a 205), .ref (a 206), .int 0, .int 0, .int 0, .int 0, .ref (a 208), .ref (a 209), .ref (a 210), .ref (a 211), .ref (a 212), .int 4, .int 12, .int (-1), .int 0, .ref (g 200), .ref (a 213), .int 0, .int 97, .ref (a 214), .ref (a 215), .ref (a 207), .null, .int 0]))] _ := hP.sub (ws' := [((a 200), .inr (21, [.int 2, .ref (a 201), .ref (a 202), .ref (a 203), .ref (a 204), .ref (a 205), .ref (a 206), .int 0, .int 0, .int 0, .int 0, .ref (a 208), .ref (a 209), .ref (a 210), .ref (a 211), .ref (a 212), .int 4, .int 12, .int (-1), .int 0, .ref (g 200), .ref (a 213), .int 0, .int 97, .ref (a 214), .ref (a 215), .ref (a 207), .null, .int 0]))]) [1] rfl
          have hDc : va_D (fun q => z0 ≤ q) [((a 200), .inr (21, [.int 2, .ref (a 201), .ref (a 202), .ref (a 203), .ref (a 204), .ref (a 205), .ref (a 206), .int 0, .int 0, .int 0, .int 0, .ref (a 208), .ref (a 209), .ref (a 210), .ref (a 211), .ref (a 212), .int 4, .int 12, .int (-1), .int 0, .ref (g 200), .ref (a 213), .int 0, .int 97, .ref (a 214), .ref (a 215), .ref (a 207), .null, .int 0]))] := (hD.to hAz).pick (ws' := [((a 200), .inr (21, [.int 2, .ref (a 201), .ref (a 202), .ref (a 203), .ref (a 204), .ref (a 205), .ref (a 206), .int 0, .int 0, .int 0, .int 0, .ref (a 208), .ref (a 209), .ref (a 210), .ref (a 211), .ref (a 212), .int 4, .int 12, .int (-1), .int 0, .ref (g 200), .ref (a 213), .int 0, .int 97, .ref (a 214), .ref (a 215), .ref (a 207), .null, .int 0]))]) [1] (by decide) rfl
          have hFc := va_free (wc := [((a 200), .inr (21, [.int 2, .ref (a 201), .ref (a 202), .ref (a 203), .ref (a 204), .ref (a 205), .ref (a 206), .int 0, .int 0, .int 0, .int 0, .ref (a 208), .ref (a 209), .ref (a 210), .ref (a 211), .ref (a 212), .int 4, .int 12, .int (-1), .int 0, .ref (g 200), .ref (a 213), .int 0, .int 97, .ref (a 214), .ref (a 215), .ref (a 207), .null, .int 0]))]) hD hS hA [1] rfl
          refine va_calli (va_runV (As := []) (rest := []) ⟨hx, hb, hml, hown, ht⟩ (k_X15_thrown_v1 l D g z0 _ a) (cwV 0 ht (gV w_772 w_774 w_775 w_334 w_773) rfl rfl rfl (by decide +kernel) (le2 rfl rfl)) ⟨PP.blind, va_recv hK.1 hP (ci := 21) (q0 := 1) rfl rfl, PP.mk' hK hZ hz hAz hS hPc hDc⟩ rfl rfl hl.1 rfl (lv_room (Nat.le_of_ble_eq_true rfl)) dL_law_3288 (le2 rfl rfl)) hS (fun q _ h => hFc q h) hFc (fun r u t H locs ht1 hvm hw hB hz1 hk1 hS => ?_)
          obtain ⟨rfl, hw⟩ := hw
          obtain ⟨hP1, hD1⟩ := hB
          rw [ht1] at hP1
          obtain ⟨hP, hD⟩ := va_join (wr := [(o1, .inl (g 1, 1, .inr (.inl (fun _ => 0))))]) (w1 := [((a 200), .inr (21, [.int 2, .ref (a 201), .ref (a 202), .ref (a 203), .ref (a 204), .ref (a 205), .ref (a 206), .int 0, .int 0, .int 0, .int 0, .ref (a 208), .ref (a 209), .ref (a 210), .ref (a 211), .ref (a 212), .int 4, .int 12, .int (-1), .int 0, .ref (g 200), .ref (a 213), .int 0, .int 97, .ref (a 214), .ref (a 215), .ref (a 207), .null, .int 0]))]) hP hD [1] [0] rfl rfl (by decide) (by decide) hk1 hFc hP1 hD1
          have hP : va_P D vwCl [(o1, .inl (g 1, 1, .inr (.inl (fun _ => 0)))), ((a 200), .inr (21, [.int 2, .ref (a 201), .ref (a 202), .ref (a 203), .ref (a 204), .ref (a 205), .ref (a 206), .int 0, .int 0, .int 0, .int 0, .ref (a 208), .ref (a 209), .ref (a 210), .ref (a 211), .ref (a 212), .int 4, .int 12, .int (-1), .int 0, .ref (g 200), .ref (a 213), .int 0, .int 97, .ref (a 214), .ref (a 215), .ref (a 207), .null, .int 0]))] H := hP
          have hD : va_D (va_A [] s.heap.size) [(o1, .inl (g 1, 1, .inr (.inl (fun _ => 0)))), ((a 200), .inr (21, [.int 2, .ref (a 201), .ref (a 202), .ref (a 203), .ref (a 204), .ref (a 205), .ref (a 206), .int 0, .int 0, .int 0, .int 0, .ref (a 208), .ref (a 209), .ref (a 210), .ref (a 211), .ref (a 212), .int 4, .int 12, .int (-1), .int 0, .ref (g 200), .ref (a 213), .int 0, .int 97, .ref (a 214), .ref (a 215), .ref (a 207), .null, .int 0]))] := hD
          refine lv_iload hx hb dL_law_3291 (lv_at hl 1 rfl) ?_
          refine lv_icmp_eq (tgt := 3298) hx hb dL_law_3293 (by decide) (fun c_9134 => ?_) (fun c_9134 => ?_)
          · refine lv_iload hx hb dL_law_3298 (lv_at hl 1 rfl) ?_
            refine lv_if_ne (tgt := 3322) hx hb dL_law_3300 (by decide) (fun c_9135 => ?_) (fun c_9135 => ?_)
            · refine lv_goto (tgt := 4264) hx hb dL_law_3322 (by decide) ?_
              refine W.widen (k := 200 + 300) (n := 8000 + 2000) (Nat.le_of_ble_eq_true rfl) (Nat.le_of_ble_eq_true rfl) ?_
              exact kk _ _ _ hS (lv_sub hl [7, 2] rfl)
            · exact absurd c_9135 (by decide)
          · exact absurd c_9134 (by decide)
        · obtain ⟨c_9136, c_9137, c_9138, c_9139, c_9140, c_9141, c_9142, c_9143, c_9144, c_9145, c_9146⟩ := hw
          exact absurd c_9136 c_8907
        · obtain ⟨c_9147, c_9148, c_9149, c_9150, c_9151, c_9152, c_9153, c_9154⟩ := hw
          exact absurd c_9147 c_8906
        · obtain ⟨c_9155, c_9156, c_9157, c_9158, c_9159, c_9160, c_9161, c_9162⟩ := hw
          exact absurd c_9155 c_8905
    · obtain ⟨c_9163, c_9164, c_9165, c_9166, c_9167, c_9168, c_9169, c_9170, c_9171, c_9172⟩ := hw
      obtain ⟨hP1, hD1⟩ := hB
      rw [ht1] at hP1
      obtain ⟨hP, hD⟩ := va_join (wr := [((a 200), f_m a g)]) (w1 := [(o1, .inl (g 1, 1, .inr (.inl (fun _ => 0))))]) hP hD [3, 0, 1] [2] rfl rfl (by decide) (by decide) hk1 hFc hP1 hD1
      have hP : va_P D vwCl [((a 200), f_m a g), (o1, .inl (g 1, 1, .inr (.inl (fun _ => 0))))] H := hP
      have hD : va_D (va_A [] s.heap.size) [((a 200), f_m a g), (o1, .inl (g 1, 1, .inr (.inl (fun _ => 0))))] := hD
      refine lv_istore (lv' := [(6, .int 2), (0, .ref b), (1, .ref (a 0)), (2, .ref (a 200)), (3, .ref o1), (4, .ref o2), (5, .int 0)]) hx hb dL_law_3248 hl (by decide) rfl (fun ls hl => ?_)
      refine lv_aload_n hx hb dL_law_3250 rfl (lv_at hl 3 rfl) ?_
      refine lv_aload_n hx hb dL_law_3251 rfl (lv_at hl 1 rfl) ?_
      refine lv_iload hx hb dL_law_3252 (lv_at hl 6 rfl) ?_
      refine lv_iconst (v := 1) hx hb dL_law_3254 (by decide) ?_
      refine lv_iadd hx hb dL_law_3255 ?_
      refine r_topi (v := 1) (by decide) ?_
      refine va_sld hx hb hX hbl hbA hS (by unfold vp_in; decide) dL_law_3256 ?_
      refine r_topi (v := xs 1) (congrArg xs (by decide)) ?_
      refine lv_i2c (v := ((xs 1).toUInt32 % 65536).toInt32) hx hb dL_law_3257 rfl ?_
      refine lv_aload_n hx hb dL_law_3258 rfl (lv_at hl 1 rfl) ?_
      refine lv_iload hx hb dL_law_3259 (lv_at hl 6 rfl) ?_
      refine lv_iconst (v := 2) hx hb dL_law_3261 (by decide) ?_
      refine lv_iadd hx hb dL_law_3262 ?_
      refine r_topi (v := 2) (by decide) ?_
      refine va_sld hx hb hX hbl hbA hS (by unfold vp_in; decide) dL_law_3263 ?_
      refine r_topi (v := xs 2) (congrArg xs (by decide)) ?_
      refine lv_aload_n hx hb dL_law_3264 rfl (lv_at hl 1 rfl) ?_
      refine lv_iload hx hb dL_law_3265 (lv_at hl 6 rfl) ?_
      refine lv_iconst (v := 3) hx hb dL_law_3267 (by decide) ?_
      refine lv_iadd hx hb dL_law_3268 ?_
      refine r_topi (v := 3) (by decide) ?_
      refine va_sld hx hb hX hbl hbA hS (by unfold vp_in; decide) dL_law_3269 ?_
      refine r_topi (v := xs 3) (congrArg xs (by decide)) ?_
      refine lv_aload_n hx hb dL_law_3270 rfl (lv_at hl 1 rfl) ?_
      refine lv_iload hx hb dL_law_3271 (lv_at hl 6 rfl) ?_
      refine lv_iconst (v := 4) hx hb dL_law_3273 (by decide) ?_
      refine lv_iadd hx hb dL_law_3274 ?_
      refine r_topi (v := 4) (by decide) ?_
      refine va_sld hx hb hX hbl hbA hS (by unfold vp_in; decide) dL_law_3275 ?_
      refine r_topi (v := xs 4) (congrArg xs (by decide)) ?_
      refine lv_aload_n hx hb dL_law_3276 rfl (lv_at hl 1 rfl) ?_
      refine lv_iload hx hb dL_law_3277 (lv_at hl 6 rfl) ?_
      refine lv_iconst (v := 5) hx hb dL_law_3279 (by decide) ?_
      refine lv_iadd hx hb dL_law_3280 ?_
      refine r_topi (v := 5) (by decide) ?_
      refine va_sld hx hb hX hbl hbA hS (by unfold vp_in; decide) dL_law_3281 ?_
      refine r_topi (v := xs 5) (congrArg xs (by decide)) ?_
      have hPc : va_P D vwCl [((a 200), f_m a g)] _ := hP.sub (ws' := [((a 200), f_m a g)]) [0] rfl
      have hDc : va_D (fun q => z0 ≤ q) [((a 200), f_m a g)] := (hD.to hAz).pick (ws' := [((a 200), f_m a g)]) [0] (by decide) rfl
      have hFc := va_free (wc := [((a 200), f_m a g)]) hD hS hA [0] rfl
      refine va_calli (va_runV (As := [.int (((xs 1).toUInt32 % 65536).toInt32), .int (xs 2), .int (xs 3), .int (xs 4), .int (xs 5)]) (rest := []) ⟨hx, hb, hml, hown, ht⟩ (k_X15_marchFinds l D g z0 _ a (((xs 1).toUInt32 % 65536).toInt32) (xs 2) (xs 3) (xs 4) (xs 5) (isC_i2c _)) (cwV 5 ht (gV w_1231 w_1233 w_1234 w_334 w_1232) rfl rfl rfl (by decide +kernel) (le2 rfl rfl)) ⟨PP.blind, va_recv hK.1 hP (ci := 21) (q0 := 0) rfl rfl, PP.mk' hK hZ hz hAz hS hPc hDc⟩ rfl rfl hl.1 rfl (lv_room (Nat.le_of_ble_eq_true rfl)) dL_law_3282 (le2 rfl rfl)) hS (fun q _ h => hFc q h) hFc (fun r u t H locs ht1 hvm hw hB hz1 hk1 hS => ?_)
      rcases hw with hw | hw
      · obtain ⟨rfl, rfl, hw⟩ := hw
        rcases hw with hw | hw | hw | hw | hw | hw | hw | hw | hw | hw | hw | hw | hw | hw | hw | hw | hw | hw | hw | hw | hw | hw | hw | hw | hw | hw | hw | hw | hw | hw | hw | hw
        · obtain ⟨c_9173, c_9174, c_9175, c_9176, c_9177⟩ := hw
          exact absurd c_9167 c_9177
        · obtain ⟨c_9178, c_9179, c_9180, c_9181, c_9182⟩ := hw
          exact absurd c_9167 c_9182
        · obtain ⟨c_9183, c_9184, c_9185, c_9186, c_9187⟩ := hw
          exact absurd c_9167 c_9187
        · obtain ⟨c_9188, c_9189, c_9190, c_9191⟩ := hw
          exact absurd c_9191 c_9168
        · obtain ⟨c_9192, c_9193, c_9194, c_9195, c_9196⟩ := hw
          exact absurd (Int.le_trans (lo_lt c_9196) (up_lt c_9169)) (by decide)
        · obtain ⟨c_9197, c_9198, c_9199, c_9200, c_9201, c_9202⟩ := hw
          exact absurd c_9202 c_9170
        · obtain ⟨c_9203, c_9204, c_9205, c_9206, c_9207, c_9208, c_9209⟩ := hw
          exact absurd (Int.le_trans (lo_lt c_9209) (up_nle c_9171)) (by decide)
        · obtain ⟨c_9210, c_9211, c_9212, c_9213, c_9214, c_9215, c_9216, c_9217⟩ := hw
          exact absurd c_9217 c_9172
        · obtain ⟨c_9218, c_9219, c_9220⟩ := hw
          exact absurd c_9218 c_9166
        · obtain ⟨c_9221, c_9222, c_9223, c_9224⟩ := hw
          exact absurd c_9221 c_9166
        · obtain ⟨c_9225, c_9226, c_9227, c_9228, c_9229⟩ := hw
          exact absurd c_9225 c_9166
        · obtain ⟨c_9230, c_9231, c_9232, c_9233, c_9234, c_9235⟩ := hw
          exact absurd c_9230 c_9166
        · obtain ⟨c_9236, c_9237, c_9238, c_9239, c_9240, c_9241, c_9242⟩ := hw
          exact absurd c_9236 c_9166
        · obtain ⟨c_9243, c_9244, c_9245, c_9246, c_9247, c_9248, c_9249, c_9250, c_9251⟩ := hw
          exact absurd c_9243 c_9166
        · obtain ⟨c_9252, c_9253, c_9254, c_9255, c_9256, c_9257, c_9258, c_9259, c_9260, c_9261⟩ := hw
          exact absurd c_9252 c_9166
        · obtain ⟨c_9262, c_9263⟩ := hw
          exact absurd c_9262 c_9165
        · obtain ⟨c_9264, c_9265, c_9266⟩ := hw
          exact absurd c_9264 c_9165
        · obtain ⟨c_9267, c_9268, c_9269, c_9270⟩ := hw
          exact absurd c_9267 c_9165
        · obtain ⟨c_9271, c_9272, c_9273, c_9274, c_9275⟩ := hw
          exact absurd c_9271 c_9165
        · obtain ⟨c_9276, c_9277, c_9278, c_9279, c_9280, c_9281⟩ := hw
          exact absurd c_9276 c_9165
        · obtain ⟨c_9282, c_9283, c_9284, c_9285, c_9286, c_9287, c_9288, c_9289⟩ := hw
          exact absurd c_9282 c_9165
        · obtain ⟨c_9290, c_9291, c_9292, c_9293, c_9294, c_9295, c_9296, c_9297, c_9298⟩ := hw
          exact absurd c_9290 c_9165
        · obtain ⟨c_9299, c_9300, c_9301, c_9302, c_9303, c_9304, c_9305, c_9306, c_9307, c_9308⟩ := hw
          exact absurd c_9299 c_9165
        · obtain ⟨c_9309, c_9310, c_9311, c_9312, c_9313, c_9314, c_9315, c_9316, c_9317, c_9318, c_9319⟩ := hw
          exact absurd c_9309 c_9165
        · obtain ⟨c_9320, c_9321, c_9322, c_9323, c_9324⟩ := hw
          exact absurd c_9320 c_9164
        · obtain ⟨c_9325, c_9326, c_9327, c_9328, c_9329, c_9330⟩ := hw
          exact absurd c_9325 c_9164
        · obtain ⟨c_9331, c_9332, c_9333, c_9334, c_9335, c_9336, c_9337⟩ := hw
          exact absurd c_9331 c_9164
        · obtain ⟨c_9338, c_9339, c_9340, c_9341, c_9342, c_9343, c_9344, c_9345⟩ := hw
          exact absurd c_9338 c_9164
        · obtain ⟨c_9346, c_9347, c_9348, c_9349, c_9350⟩ := hw
          exact absurd c_9346 c_9163
        · obtain ⟨c_9351, c_9352, c_9353, c_9354, c_9355, c_9356⟩ := hw
          exact absurd c_9351 c_9163
        · obtain ⟨c_9357, c_9358, c_9359, c_9360, c_9361, c_9362, c_9363⟩ := hw
          exact absurd c_9357 c_9163
        · obtain ⟨c_9364, c_9365, c_9366, c_9367, c_9368, c_9369, c_9370, c_9371⟩ := hw
          exact absurd c_9364 c_9163
      · obtain ⟨rfl, rfl, hw⟩ := hw
        rcases hw with hw | hw | hw | hw | hw
        · obtain ⟨c_9372, c_9373, c_9374, c_9375, c_9376, c_9377, c_9378, c_9379⟩ := hw
          obtain ⟨hP1, hD1⟩ := hB
          rw [ht1] at hP1
          obtain ⟨hP, hD⟩ := va_join (wr := [(o1, .inl (g 1, 1, .inr (.inl (fun _ => 0))))]) (w1 := [((a 200), .inr (21, [.int 2, .ref (a 201), .ref (a 202), .ref (a 203), .ref (a 204), .ref (a 205), .ref (a 206), .int 0, .int 0, .int 0, .int 0, .ref (a 208), .ref (a 209), .ref (a 210), .ref (a 211), .ref (a 212), .int 4, .int 12, .int (-1), .int 0, .ref (g 200), .ref (a 213), .int 0, .int 97, .ref (a 214), .ref (a 215), .ref (a 207), .null, .int 0]))]) hP hD [0] [1] rfl rfl (by decide) (by decide) hk1 hFc hP1 hD1
          have hP : va_P D vwCl [(o1, .inl (g 1, 1, .inr (.inl (fun _ => 0)))), ((a 200), .inr (21, [.int 2, .ref (a 201), .ref (a 202), .ref (a 203), .ref (a 204), .ref (a 205), .ref (a 206), .int 0, .int 0, .int 0, .int 0, .ref (a 208), .ref (a 209), .ref (a 210), .ref (a 211), .ref (a 212), .int 4, .int 12, .int (-1), .int 0, .ref (g 200), .ref (a 213), .int 0, .int 97, .ref (a 214), .ref (a 215), .ref (a 207), .null, .int 0]))] H := hP
          have hD : va_D (va_A [] s.heap.size) [(o1, .inl (g 1, 1, .inr (.inl (fun _ => 0)))), ((a 200), .inr (21, [.int 2, .ref (a 201), .ref (a 202), .ref (a 203), .ref (a 204), .ref (a 205), .ref (a 206), .int 0, .int 0, .int 0, .int 0, .ref (a 208), .ref (a 209), .ref (a 210), .ref (a 211), .ref (a 212), .int 4, .int 12, .int (-1), .int 0, .ref (g 200), .ref (a 213), .int 0, .int 97, .ref (a 214), .ref (a 215), .ref (a 207), .null, .int 0]))] := hD
          refine lv_istore (lv' := [(7, .int 0), (6, .int 2), (0, .ref b), (1, .ref (a 0)), (2, .ref (a 200)), (3, .ref o1), (4, .ref o2), (5, .int 0)]) hx hb dL_law_3285 hl (by decide) rfl (fun ls hl => ?_)
          refine lv_aload_n hx hb dL_law_3287 rfl (lv_at hl 4 rfl) ?_
          have hPc : va_P D vwCl [((a 200), .inr (21, [.int 2, .ref (a 201), .ref (a 202), .ref (a 203), .ref (a 204), .ref (a 205), .ref (a 206), .int 0, .int 0, .int 0, .int 0, .ref (a 208), .ref (a 209), .ref (a 210), .ref (a 211), .ref (a 212), .int 4, .int 12, .int (-1), .int 0, .ref (g 200), .ref (a 213), .int 0, .int 97, .ref (a 214), .ref (a 215), .ref (a 207), .null, .int 0]))] _ := hP.sub (ws' := [((a 200), .inr (21, [.int 2, .ref (a 201), .ref (a 202), .ref (a 203), .ref (a 204), .ref (a 205), .ref (a 206), .int 0, .int 0, .int 0, .int 0, .ref (a 208), .ref (a 209), .ref (a 210), .ref (a 211), .ref (a 212), .int 4, .int 12, .int (-1), .int 0, .ref (g 200), .ref (a 213), .int 0, .int 97, .ref (a 214), .ref (a 215), .ref (a 207), .null, .int 0]))]) [1] rfl
          have hDc : va_D (fun q => z0 ≤ q) [((a 200), .inr (21, [.int 2, .ref (a 201), .ref (a 202), .ref (a 203), .ref (a 204), .ref (a 205), .ref (a 206), .int 0, .int 0, .int 0, .int 0, .ref (a 208), .ref (a 209), .ref (a 210), .ref (a 211), .ref (a 212), .int 4, .int 12, .int (-1), .int 0, .ref (g 200), .ref (a 213), .int 0, .int 97, .ref (a 214), .ref (a 215), .ref (a 207), .null, .int 0]))] := (hD.to hAz).pick (ws' := [((a 200), .inr (21, [.int 2, .ref (a 201), .ref (a 202), .ref (a 203), .ref (a 204), .ref (a 205), .ref (a 206), .int 0, .int 0, .int 0, .int 0, .ref (a 208), .ref (a 209), .ref (a 210), .ref (a 211), .ref (a 212), .int 4, .int 12, .int (-1), .int 0, .ref (g 200), .ref (a 213), .int 0, .int 97, .ref (a 214), .ref (a 215), .ref (a 207), .null, .int 0]))]) [1] (by decide) rfl
          have hFc := va_free (wc := [((a 200), .inr (21, [.int 2, .ref (a 201), .ref (a 202), .ref (a 203), .ref (a 204), .ref (a 205), .ref (a 206), .int 0, .int 0, .int 0, .int 0, .ref (a 208), .ref (a 209), .ref (a 210), .ref (a 211), .ref (a 212), .int 4, .int 12, .int (-1), .int 0, .ref (g 200), .ref (a 213), .int 0, .int 97, .ref (a 214), .ref (a 215), .ref (a 207), .null, .int 0]))]) hD hS hA [1] rfl
          refine va_calli (va_runV (As := []) (rest := []) ⟨hx, hb, hml, hown, ht⟩ (k_X15_thrown_v1 l D g z0 _ a) (cwV 0 ht (gV w_772 w_774 w_775 w_334 w_773) rfl rfl rfl (by decide +kernel) (le2 rfl rfl)) ⟨PP.blind, va_recv hK.1 hP (ci := 21) (q0 := 1) rfl rfl, PP.mk' hK hZ hz hAz hS hPc hDc⟩ rfl rfl hl.1 rfl (lv_room (Nat.le_of_ble_eq_true rfl)) dL_law_3288 (le2 rfl rfl)) hS (fun q _ h => hFc q h) hFc (fun r u t H locs ht1 hvm hw hB hz1 hk1 hS => ?_)
          obtain ⟨rfl, hw⟩ := hw
          obtain ⟨hP1, hD1⟩ := hB
          rw [ht1] at hP1
          obtain ⟨hP, hD⟩ := va_join (wr := [(o1, .inl (g 1, 1, .inr (.inl (fun _ => 0))))]) (w1 := [((a 200), .inr (21, [.int 2, .ref (a 201), .ref (a 202), .ref (a 203), .ref (a 204), .ref (a 205), .ref (a 206), .int 0, .int 0, .int 0, .int 0, .ref (a 208), .ref (a 209), .ref (a 210), .ref (a 211), .ref (a 212), .int 4, .int 12, .int (-1), .int 0, .ref (g 200), .ref (a 213), .int 0, .int 97, .ref (a 214), .ref (a 215), .ref (a 207), .null, .int 0]))]) hP hD [1] [0] rfl rfl (by decide) (by decide) hk1 hFc hP1 hD1
          have hP : va_P D vwCl [(o1, .inl (g 1, 1, .inr (.inl (fun _ => 0)))), ((a 200), .inr (21, [.int 2, .ref (a 201), .ref (a 202), .ref (a 203), .ref (a 204), .ref (a 205), .ref (a 206), .int 0, .int 0, .int 0, .int 0, .ref (a 208), .ref (a 209), .ref (a 210), .ref (a 211), .ref (a 212), .int 4, .int 12, .int (-1), .int 0, .ref (g 200), .ref (a 213), .int 0, .int 97, .ref (a 214), .ref (a 215), .ref (a 207), .null, .int 0]))] H := hP
          have hD : va_D (va_A [] s.heap.size) [(o1, .inl (g 1, 1, .inr (.inl (fun _ => 0)))), ((a 200), .inr (21, [.int 2, .ref (a 201), .ref (a 202), .ref (a 203), .ref (a 204), .ref (a 205), .ref (a 206), .int 0, .int 0, .int 0, .int 0, .ref (a 208), .ref (a 209), .ref (a 210), .ref (a 211), .ref (a 212), .int 4, .int 12, .int (-1), .int 0, .ref (g 200), .ref (a 213), .int 0, .int 97, .ref (a 214), .ref (a 215), .ref (a 207), .null, .int 0]))] := hD
          refine lv_iload hx hb dL_law_3291 (lv_at hl 1 rfl) ?_
          refine lv_icmp_eq (tgt := 3298) hx hb dL_law_3293 (by decide) (fun c_9380 => ?_) (fun c_9380 => ?_)
          · refine lv_iload hx hb dL_law_3298 (lv_at hl 1 rfl) ?_
            refine lv_if_ne (tgt := 3322) hx hb dL_law_3300 (by decide) (fun c_9381 => ?_) (fun c_9381 => ?_)
            · refine lv_goto (tgt := 4264) hx hb dL_law_3322 (by decide) ?_
              refine W.widen (k := 200 + 300) (n := 8000 + 2000) (Nat.le_of_ble_eq_true rfl) (Nat.le_of_ble_eq_true rfl) ?_
              exact kk _ _ _ hS (lv_sub hl [7, 2] rfl)
            · exact absurd c_9381 (by decide)
          · exact absurd c_9380 (by decide)
        · obtain ⟨c_9382, c_9383, c_9384, c_9385, c_9386, c_9387, c_9388, c_9389, c_9390, c_9391⟩ := hw
          exact absurd c_9382 c_9166
        · obtain ⟨c_9392, c_9393, c_9394, c_9395, c_9396, c_9397, c_9398, c_9399, c_9400, c_9401, c_9402⟩ := hw
          exact absurd c_9392 c_9165
        · obtain ⟨c_9403, c_9404, c_9405, c_9406, c_9407, c_9408, c_9409, c_9410⟩ := hw
          exact absurd c_9403 c_9164
        · obtain ⟨c_9411, c_9412, c_9413, c_9414, c_9415, c_9416, c_9417, c_9418⟩ := hw
          exact absurd c_9411 c_9163
