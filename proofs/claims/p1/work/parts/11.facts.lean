/-! what the launch gives: the classes, the arrays' classes, the texts, the statics -/
theorem fi_RJ0 : ∀ w ∈ u_ws RJ0 TJ0 4, w ∈ lw_tbl := fun w h => List.mem_append_right _ ((goodIn_r (big := tables_1) _ [1145, 1147, 3097, 3099] (by decide +kernel) (by decide +kernel) w h).1)
theorem fi_RJ4 : ∀ w ∈ u_ws RJ4 TJ4 4, w ∈ lw_tbl := fun w h => List.mem_append_right _ ((goodIn_r (big := tables_1) _ [2926, 2928, 2930, 2932] (by decide +kernel) (by decide +kernel) w h).1)
theorem fi_RJ6 : ∀ w ∈ u_ws RJ6 TJ6 1, w ∈ lw_tbl := fun w h => List.mem_append_right _ ((goodIn_r (big := tables_1) _ [2196] (by decide +kernel) (by decide +kernel) w h).1)
theorem fi_RJx00060 : ∀ w ∈ u_ws RJx00060 TJx00060 6, w ∈ lw_tbl := fun w h => List.mem_append_right _ ((goodIn_r (big := tables_1) _ [1132, 1133, 1134, 1135, 1136, 1137] (by decide +kernel) (by decide +kernel) w h).1)
theorem fi_RJx35411 : ∀ w ∈ u_ws RJx35411 TJx35411 4, w ∈ lw_tbl := fun w h => List.mem_append_right _ ((goodIn_r (big := tables_1) _ [2425, 2427, 2429, 2431] (by decide +kernel) (by decide +kernel) w h).1)
theorem fi_RJx4a65c : ∀ w ∈ u_ws RJx4a65c TJx4a65c 3, w ∈ lw_tbl := fun w h => List.mem_append_right _ ((goodIn_r (big := tables_1) _ [2024, 2020, 2022] (by decide +kernel) (by decide +kernel) w h).1)
theorem fi_RX0 : ∀ w ∈ u_ws RX0 TX0 4, w ∈ lw_tbl := fun w h => List.mem_append_right _ ((goodIn_r (big := tables_1) _ [518, 520, 522, 524] (by decide +kernel) (by decide +kernel) w h).1)
theorem fi_RX1 : ∀ w ∈ u_ws RX1 TX1 13, w ∈ lw_tbl := fun w h => List.mem_append_right _ ((goodIn_r (big := tables_1) _ [444, 446, 448, 450, 452, 454, 456, 458, 460, 462, 464, 466, 468] (by decide +kernel) (by decide +kernel) w h).1)
theorem fi_RX2 : ∀ w ∈ u_ws RX2 TX2 7, w ∈ lw_tbl := fun w h => List.mem_append_right _ ((goodIn_r (big := tables_1) _ [542, 544, 546, 548, 550, 552, 554] (by decide +kernel) (by decide +kernel) w h).1)
theorem fi_RX3 : ∀ w ∈ u_ws RX3 TX3 14, w ∈ lw_tbl := fun w h => List.mem_append_right _ ((goodIn_r (big := tables_1) _ [219, 221, 223, 225, 227, 229, 231, 233, 235, 237, 239, 241, 243, 245] (by decide +kernel) (by decide +kernel) w h).1)
theorem fi_RX4 : ∀ w ∈ u_ws RX4 TX4 6, w ∈ lw_tbl := fun w h => List.mem_append_right _ ((goodIn_r (big := tables_1) _ [385, 387, 389, 391, 393, 395] (by decide +kernel) (by decide +kernel) w h).1)
theorem fi_RX5 : ∀ w ∈ u_ws RX5 TX5 9, w ∈ lw_tbl := fun w h => List.mem_append_right _ ((goodIn_r (big := tables_1) _ [487, 489, 491, 493, 495, 497, 499, 501, 503] (by decide +kernel) (by decide +kernel) w h).1)
theorem fi_RX6 : ∀ w ∈ u_ws RX6 TX6 18, w ∈ lw_tbl := fun w h => List.mem_append_right _ ((goodIn_r (big := tables_1) _ [129, 131, 133, 135, 137, 139, 141, 143, 145, 147, 149, 151, 153, 155, 157, 159, 161, 163] (by decide +kernel) (by decide +kernel) w h).1)
theorem fi_RX7 : ∀ w ∈ u_ws RX7 TX7 6, w ∈ lw_tbl := fun w h => List.mem_append_right _ ((goodIn_r (big := tables_1) _ [270, 272, 274, 276, 278, 280] (by decide +kernel) (by decide +kernel) w h).1)
theorem fi_RX8 : ∀ w ∈ u_ws RX8 TX8 4, w ∈ lw_tbl := fun w h => List.mem_append_right _ ((goodIn_r (big := tables_1) _ [410, 412, 414, 416] (by decide +kernel) (by decide +kernel) w h).1)
theorem fi_RX9 : ∀ w ∈ u_ws RX9 TX9 5, w ∈ lw_tbl := fun w h => List.mem_append_right _ ((goodIn_r (big := tables_1) _ [362, 364, 366, 368, 370] (by decide +kernel) (by decide +kernel) w h).1)
theorem fi_RX10 : ∀ w ∈ u_ws RX10 TX10 17, w ∈ lw_tbl := fun w h => List.mem_append_right _ ((goodIn_r (big := tables_1) _ [313, 315, 317, 319, 321, 323, 325, 327, 329, 331, 333, 335, 337, 339, 341, 343, 345] (by decide +kernel) (by decide +kernel) w h).1)
theorem fi_RX11 : ∀ w ∈ u_ws RX11 TX11 11, w ∈ lw_tbl := fun w h => List.mem_append_right _ ((goodIn_r (big := tables_1) _ [568, 570, 572, 574, 576, 578, 580, 582, 584, 586, 588] (by decide +kernel) (by decide +kernel) w h).1)
theorem fi_RX12 : ∀ w ∈ u_ws RX12 TX12 4, w ∈ lw_tbl := fun w h => List.mem_append_right _ ((goodIn_r (big := tables_1) _ [2477, 2479, 2481, 2483] (by decide +kernel) (by decide +kernel) w h).1)
theorem fi_RX13 : ∀ w ∈ u_ws RX13 TX13 8, w ∈ lw_tbl := fun w h => List.mem_append_right _ ((goodIn_r (big := tables_1) _ [2162, 2164, 2166, 2168, 2170, 2172, 2174, 2176] (by decide +kernel) (by decide +kernel) w h).1)
theorem fi_RX14 : ∀ w ∈ u_ws RX14 TX14 2, w ∈ lw_tbl := fun w h => List.mem_append_right _ ((goodIn_r (big := tables_1) _ [2513, 2515] (by decide +kernel) (by decide +kernel) w h).1)
theorem fi_RX15 : ∀ w ∈ u_ws RX15 TX15 29, w ∈ lw_tbl := fun w h => List.mem_append_right _ ((goodIn_r (big := tables_1) _ [2062, 2064, 2066, 2068, 2070, 2072, 2074, 2076, 2078, 2080, 2082, 2084, 2086, 2088, 2090, 2092, 2094, 2096, 2098, 2100, 2102, 2104, 2106, 2108, 2110, 2112, 2114, 2116, 2118] (by decide +kernel) (by decide +kernel) w h).1)
theorem lw_xsel {s : State} {args : Array Value} (hts : ∀ w ∈ lw_tbl, w.before args s = true) : ∀ w ∈ xsel, w.before args s = true := by
  intro w hw
  obtain ⟨y, hy, rfl⟩ := List.mem_map.mp hw
  obtain ⟨h1, h2, h3, h4⟩ := (by decide +kernel : ∀ y ∈ xselY, (y.cls ≠ "java/lang/invoke/MethodHandle" ∧ y.cls ≠ "java/lang/invoke/VarHandle") ∧ "java/lang/AbstractStringBuilder" = y.cls ∧ Cond.privateMethod y ∈ lw_tbl ∧ Cond.instanceMethod y ∈ lw_tbl) y hy
  exact sel_priv (y0 := ⟨"java/lang/AbstractStringBuilder", "getValue", "()[B"⟩) h1 h2 (hts _ (by decide +kernel)) (hts _ h3) (hts _ h4)
theorem lw_TG {s : State} {args : Array Value} (hts : ∀ w ∈ lw_tbl, w.before args s = true) : ∀ w ∈ TG, w.before args s = true := fun w hw =>
  (List.mem_append.mp (TG_tbl w hw)).elim (lw_xsel hts w) (hts w)
theorem lw_cls0 {s : State} {args : Array Value} (hts : ∀ w ∈ lw_tbl, w.before args s = true) : ∀ q ∈ vwCl, ∃ (cC : ClassId) (iS : Nat → Nat), u_Kn s q.1 q.2.1 q.2.2 cC iS :=
  List.forall_mem_cons.mpr ⟨⟨_, _, Classical.choose_spec (Classical.choose_spec (u_known (C := RJ0) (T := TJ0) (N := 4) (n := 4) hts fi_RJ0 (hts _ (sg_5 _ (List.mem_of_getElem? (i := 183) (by decide +kernel))))))⟩, List.forall_mem_cons.mpr ⟨⟨_, _, Classical.choose_spec (Classical.choose_spec (u_known (C := RJ4) (T := TJ4) (N := 4) (n := 4) hts fi_RJ4 (hts _ (sg_13 _ (List.mem_of_getElem? (i := 26) (by decide +kernel))))))⟩, List.forall_mem_cons.mpr ⟨⟨_, _, Classical.choose_spec (Classical.choose_spec (u_known (C := RJ6) (T := TJ6) (N := 1) (n := 1) hts fi_RJ6 (hts _ (sg_10 _ (List.mem_of_getElem? (i := 27) (by decide +kernel))))))⟩, List.forall_mem_cons.mpr ⟨⟨_, _, Classical.choose_spec (Classical.choose_spec (u_known (C := RJx00060) (T := TJx00060) (N := 6) (n := 6) hts fi_RJx00060 (hts _ (sg_5 _ (List.mem_of_getElem? (i := 157) (by decide +kernel))))))⟩, List.forall_mem_cons.mpr ⟨⟨_, _, Classical.choose_spec (Classical.choose_spec (u_known (C := RJx35411) (T := TJx35411) (N := 4) (n := 4) hts fi_RJx35411 (hts _ (sg_11 _ (List.mem_of_getElem? (i := 16) (by decide +kernel))))))⟩, List.forall_mem_cons.mpr ⟨⟨_, _, Classical.choose_spec (Classical.choose_spec (u_known (C := RJx4a65c) (T := TJx4a65c) (N := 3) (n := 3) hts fi_RJx4a65c (hts _ (sg_9 _ (List.mem_of_getElem? (i := 79) (by decide +kernel))))))⟩, List.forall_mem_cons.mpr ⟨⟨_, _, Classical.choose_spec (Classical.choose_spec (u_known (C := RX0) (T := TX0) (N := 4) (n := 4) hts fi_RX0 (hts _ (sg_3 _ (List.mem_of_getElem? (i := 27) (by decide +kernel))))))⟩, List.forall_mem_cons.mpr ⟨⟨_, _, Classical.choose_spec (Classical.choose_spec (u_known (C := RX1) (T := TX1) (N := 13) (n := 13) hts fi_RX1 (hts _ (sg_2 _ (List.mem_of_getElem? (i := 180) (by decide +kernel))))))⟩, List.forall_mem_cons.mpr ⟨⟨_, _, Classical.choose_spec (Classical.choose_spec (u_known (C := RX2) (T := TX2) (N := 7) (n := 7) hts fi_RX2 (hts _ (sg_3 _ (List.mem_of_getElem? (i := 48) (by decide +kernel))))))⟩, List.forall_mem_cons.mpr ⟨⟨_, _, Classical.choose_spec (Classical.choose_spec (u_known (C := RX3) (T := TX3) (N := 14) (n := 14) hts fi_RX3 (hts _ (sg_1 _ (List.mem_of_getElem? (i := 171) (by decide +kernel))))))⟩, List.forall_mem_cons.mpr ⟨⟨_, _, Classical.choose_spec (Classical.choose_spec (u_known (C := RX4) (T := TX4) (N := 6) (n := 6) hts fi_RX4 (hts _ (sg_2 _ (List.mem_of_getElem? (i := 134) (by decide +kernel))))))⟩, List.forall_mem_cons.mpr ⟨⟨_, _, Classical.choose_spec (Classical.choose_spec (u_known (C := RX5) (T := TX5) (N := 9) (n := 9) hts fi_RX5 (hts _ (sg_2 _ (List.mem_of_getElem? (i := 232) (by decide +kernel))))))⟩, List.forall_mem_cons.mpr ⟨⟨_, _, Classical.choose_spec (Classical.choose_spec (u_known (C := RX6) (T := TX6) (N := 18) (n := 18) hts fi_RX6 (hts _ (sg_1 _ (List.mem_of_getElem? (i := 56) (by decide +kernel))))))⟩, List.forall_mem_cons.mpr ⟨⟨_, _, Classical.choose_spec (Classical.choose_spec (u_known (C := RX7) (T := TX7) (N := 6) (n := 6) hts fi_RX7 (hts _ (sg_2 _ (List.mem_of_getElem? (i := 9) (by decide +kernel))))))⟩, List.forall_mem_cons.mpr ⟨⟨_, _, Classical.choose_spec (Classical.choose_spec (u_known (C := RX8) (T := TX8) (N := 4) (n := 4) hts fi_RX8 (hts _ (sg_2 _ (List.mem_of_getElem? (i := 159) (by decide +kernel))))))⟩, List.forall_mem_cons.mpr ⟨⟨_, _, Classical.choose_spec (Classical.choose_spec (u_known (C := RX9) (T := TX9) (N := 5) (n := 5) hts fi_RX9 (hts _ (sg_2 _ (List.mem_of_getElem? (i := 109) (by decide +kernel))))))⟩, List.forall_mem_cons.mpr ⟨⟨_, _, Classical.choose_spec (Classical.choose_spec (u_known (C := RX10) (T := TX10) (N := 17) (n := 17) hts fi_RX10 (hts _ (sg_2 _ (List.mem_of_getElem? (i := 44) (by decide +kernel))))))⟩, List.forall_mem_cons.mpr ⟨⟨_, _, Classical.choose_spec (Classical.choose_spec (u_known (C := RX11) (T := TX11) (N := 11) (n := 11) hts fi_RX11 (hts _ (sg_1 _ (List.mem_of_getElem? (i := 48) (by decide +kernel))))))⟩, List.forall_mem_cons.mpr ⟨⟨_, _, Classical.choose_spec (Classical.choose_spec (u_known (C := RX12) (T := TX12) (N := 4) (n := 4) hts fi_RX12 (hts _ (sg_11 _ (List.mem_of_getElem? (i := 64) (by decide +kernel))))))⟩, List.forall_mem_cons.mpr ⟨⟨_, _, Classical.choose_spec (Classical.choose_spec (u_known (C := RX13) (T := TX13) (N := 8) (n := 8) hts fi_RX13 (hts _ (sg_9 _ (List.mem_of_getElem? (i := 224) (by decide +kernel))))))⟩, List.forall_mem_cons.mpr ⟨⟨_, _, Classical.choose_spec (Classical.choose_spec (u_known (C := RX14) (T := TX14) (N := 2) (n := 2) hts fi_RX14 (hts _ (sg_11 _ (List.mem_of_getElem? (i := 104) (by decide +kernel))))))⟩, List.forall_mem_cons.mpr ⟨⟨_, _, Classical.choose_spec (Classical.choose_spec (u_known (C := RX15) (T := TX15) (N := 29) (n := 29) hts fi_RX15 (hts _ (sg_9 _ (List.mem_of_getElem? (i := 73) (by decide +kernel))))))⟩, fun _ h => absurd h List.not_mem_nil⟩⟩⟩⟩⟩⟩⟩⟩⟩⟩⟩⟩⟩⟩⟩⟩⟩⟩⟩⟩⟩⟩
theorem lw_cls {s : State} {args : Array Value} (hts : ∀ w ∈ lw_tbl, w.before args s = true) : ∃ D : va_G, ∀ (c : Nat) (q : vw_C), vwCl[c]? = some q → u_Kn s q.1 q.2.1 q.2.2 (D.1 c) (D.2 c) := by
  have h : ∀ c : Nat, ∃ x : ClassId × (Nat → Nat), ∀ q : vw_C, vwCl[c]? = some q → u_Kn s q.1 q.2.1 q.2.2 x.1 x.2 := by
    intro c
    cases hc : vwCl[c]? with
    | none => exact ⟨(0, fun _ => 0), fun q h => by cases h⟩
    | some q =>
      obtain ⟨cC, iS, hk⟩ := lw_cls0 hts q (List.mem_of_getElem? hc)
      exact ⟨(cC, iS), fun q' h => by cases h; exact hk⟩
  obtain ⟨f, hf⟩ := Classical.axiomOfChoice h
  exact ⟨(fun c => (f c).1, fun c => (f c).2), hf⟩
theorem lw_ac {s : State} {args : Array Value} {ty : FieldType} (h : (Cond.arrayClass ty).before args s = true) : ∃ c : ClassId, s.vm.findClass ("[" ++ ty.toString) = some c ∧ ArrOfT s c ty := by
  obtain ⟨c, k, comp, h1, h2, h3⟩ := Cond.arrayClass_spec h
  exact ⟨c, h1, fun n z => ⟨fun k h => (by cases h), k, h2, comp, h3⟩⟩
def mkG (l : List Nat) (e0 e1 e2 : Nat) (sK sV ik : Nat → Nat) : Nat → Nat := fun n => if n < 9 then l.getD n 0 else if n = 100 then e0 else if n = 101 then e1 else if n = 102 then e2 else if n < 300 then sK (n - 200) else if n < 400 then sV (n - 300) else ik (n - 1000)
theorem mkG_s {l : List Nat} {e0 e1 e2 : Nat} {sK sV ik : Nat → Nat} {i : Nat} (hi : i < 7) : mkG l e0 e1 e2 sK sV ik (200 + i) = sK i := by
  unfold mkG
  rw [if_neg (by omega), if_neg (by omega), if_neg (by omega), if_neg (by omega), if_pos (by omega), Nat.add_sub_cancel_left]
theorem mkG_v {l : List Nat} {e0 e1 e2 : Nat} {sK sV ik : Nat → Nat} {i : Nat} (hi : i < 7) : mkG l e0 e1 e2 sK sV ik (300 + i) = sV i := by
  unfold mkG
  rw [if_neg (by omega), if_neg (by omega), if_neg (by omega), if_neg (by omega), if_neg (by omega), if_pos (by omega), Nat.add_sub_cancel_left]
theorem mkG_i {l : List Nat} {e0 e1 e2 : Nat} {sK sV ik : Nat → Nat} (i : Nat) : mkG l e0 e1 e2 sK sV ik (1000 + i) = ik i := by
  unfold mkG
  rw [if_neg (by omega), if_neg (by omega), if_neg (by omega), if_neg (by omega), if_neg (by omega), if_neg (by omega), Nat.add_sub_cancel_left]
def lwF : List Cond := flatC (Cond.and given_1 narrow_1)
abbrev sTm : Nat → Term := fun i => .string "StuckatBenchModel" (sOwn.getD i (0, "")).1
set_option maxRecDepth 100000 in
set_option maxHeartbeats 4000000 in
theorem lw_facts {s : State} {args : Array Value} (hts : ∀ w ∈ lw_tbl, w.before args s = true) (hgv : (Jvm.Cond.and given_1 narrow_1).before args s = true) : ∃ (D : va_G) (g : Nat → ClassId), KK D g s ∧ ZZ g s.heap.size s := by
  have hF : ∀ w ∈ lwF, w.before args s = true := flat_of_before _ hgv
  have hA : ∀ a : Nat, a < s.heap.size → ¬ s.heap.size ≤ a := fun a h => Nat.not_le.mpr h
  obtain ⟨D, hD⟩ := lw_cls hts
  obtain ⟨c0, n0, a0⟩ := lw_ac (hts (.arrayClass .int) (sg_1 _ (List.mem_of_getElem? (i := 167) (by decide +kernel))))
  obtain ⟨c1, n1, a1⟩ := lw_ac (hts (.arrayClass .long) (sg_1 _ (List.mem_of_getElem? (i := 168) (by decide +kernel))))
  obtain ⟨c2, n2, a2⟩ := lw_ac (hts (.arrayClass .char) (sg_1 _ (List.mem_of_getElem? (i := 166) (by decide +kernel))))
  obtain ⟨c3, n3, a3⟩ := lw_ac (hts (.arrayClass .boolean) (sg_1 _ (List.mem_of_getElem? (i := 169) (by decide +kernel))))
  obtain ⟨c4, n4, a4⟩ := lw_ac (hts (.arrayClass .double) (sg_14 _ (List.mem_of_getElem? (i := 221) (by decide +kernel))))
  obtain ⟨c5, n5, a5⟩ := lw_ac (hts (.arrayClass .byte) (sg_5 _ (List.mem_of_getElem? (i := 184) (by decide +kernel))))
  have hAO6 : va_AOA .boolean s := va_AOA.of (hts _ (sg_9 _ (List.mem_of_getElem? (i := 111) (by decide +kernel))))
  have hAO7 : va_AOA .int s := va_AOA.of (hts _ (sg_9 _ (List.mem_of_getElem? (i := 108) (by decide +kernel))))
  have hAO8 : va_AO "java/lang/Object" s := va_AO.of (hts _ (sg_10 _ (List.mem_of_getElem? (i := 107) (by decide +kernel))))
  obtain ⟨m6, c6, k6, -, -, q6, r6, n6⟩ := AOA_spec hAO6
  obtain ⟨m7, c7, k7, -, -, q7, r7, n7⟩ := AOA_spec hAO7
  obtain ⟨m8, c8, k8, p8, -, q8, r8, n8⟩ := Cond.arrayOver_spec (va_AO.use (A := args) hAO8)
  obtain ⟨e0, h0, hT0⟩ := va_Tof (s := s) (args := args) (tm := .static "java/util/ArrayList" "DEFAULTCAPACITY_EMPTY_ELEMENTDATA" "[Ljava/lang/Object;") (ty := .object "java/lang/Object") (N := 0) (f := fun _ => .null) (A := fun q => s.heap.size ≤ q) (by decide) (hF _ (by decide +kernel)) (va_eqt (hF _ (by decide +kernel))) (fun j hj => absurd hj (Nat.not_lt_zero j)) hA
  have hZ0 := va_Zof (A := fun q => s.heap.size ≤ q) (hts (.laysStatic "java/util/ArrayList" "DEFAULTCAPACITY_EMPTY_ELEMENTDATA" "[Ljava/lang/Object;") (sg_9 _ (List.mem_of_getElem? (i := 91) (by decide +kernel)))) (hts _ (sg_1 _ (List.mem_of_getElem? (i := 17) (by decide +kernel)))) h0 hA
  have hO0 := va_Oof (nm := "[Ljava/lang/Object;") (A := fun q => s.heap.size ≤ q) (hF _ (by decide +kernel)) h0 hA
  have hCS := va_Zof (A := fun q => s.heap.size ≤ q) (v := .int 1) (hts (.laysStatic "java/lang/String" "COMPACT_STRINGS" "Z") (sg_10 _ (List.mem_of_getElem? (i := 135) (by decide +kernel)))) (hts _ (sg_1 _ (List.mem_of_getElem? (i := 32) (by decide +kernel)))) (va_eqi (hF _ (by decide +kernel))) hA
  have hHi := va_Zof (A := fun q => s.heap.size ≤ q) (v := .int 127) (hts (.laysStatic "java/lang/Integer$IntegerCache" "high" "I") (sg_10 _ (List.mem_of_getElem? (i := 23) (by decide +kernel)))) (hts _ (sg_1 _ (List.mem_of_getElem? (i := 26) (by decide +kernel)))) (va_eqi (hF _ (by decide +kernel))) hA
  have hlen : (Term.length (.static "java/lang/Integer$IntegerCache" "cache" "[Ljava/lang/Integer;")).eval args s none [] s = some (.int (Int32.ofNat 256)) := va_eqt (hF _ (by decide +kernel))
  obtain ⟨ik, hIC, hIe⟩ := vb_Cof (A := fun q => s.heap.size ≤ q) rfl hlen (hF _ (by decide +kernel)) hA
  obtain ⟨e1, h1, hT1⟩ := va_Tof (ty := .object "java/lang/Integer") (N := 256) (f := fun j => .ref (ik j)) (A := fun q => s.heap.size ≤ q) (by decide) (hF _ (by decide +kernel)) hlen hIe hA
  have hZ1 := va_Zof (A := fun q => s.heap.size ≤ q) (hts (.laysStatic "java/lang/Integer$IntegerCache" "cache" "[Ljava/lang/Integer;") (sg_10 _ (List.mem_of_getElem? (i := 25) (by decide +kernel)))) (hts _ (sg_1 _ (List.mem_of_getElem? (i := 26) (by decide +kernel)))) h1 hA
  obtain ⟨e2, hMi⟩ := va_Mi.of (hF (.isRef (.mirror "[Ljava/lang/Object;")) (by decide +kernel))
  obtain ⟨sK, sV, hSt, hSe⟩ := vk_Sof (args := args) (s := s) (N := 7) (tm := sTm) (len := sLen) (byt := sByt) (A := fun q => s.heap.size ≤ q) (by decide +kernel)
    (fun i hi => hF _ ((by decide +kernel : ∀ i, i < 7 → Cond.exactly (sTm i) "java/lang/String" ∈ lwF) i hi))
    (fun i hi => hF _ ((by decide +kernel : ∀ i, i < 7 → Cond.eq (.field (sTm i) "java/lang/String" "coder" "B") (.int 0) ∈ lwF) i hi))
    (fun i hi => hF _ ((by decide +kernel : ∀ i, i < 7 → Cond.arrayOf (.field (sTm i) "java/lang/String" "value" "[B") .byte ∈ lwF) i hi))
    (fun i hi => hF _ ((by decide +kernel : ∀ i, i < 7 → Cond.eq (.length (.field (sTm i) "java/lang/String" "value" "[B")) (.int (Int32.ofNat (sLen.getD i 0))) ∈ lwF) i hi))
    (fun i hi j hj => hF _ ((by decide +kernel : ∀ i, i < 7 → ∀ j, j < sLen.getD i 0 → Cond.eq (.elem (.field (sTm i) "java/lang/String" "value" "[B") (.int (Int32.ofNat j))) (.int ((sByt.getD i []).getD j 0)) ∈ lwF) i hi j hj))
    (fun i j hi hj hij => ((by decide +kernel : ∀ i, i < 7 → ∀ j, j < 7 → i ≠ j → Cond.not (Cond.eq (sTm i) (sTm j)) ∈ lwF ∨ Cond.not (Cond.eq (sTm j) (sTm i)) ∈ lwF) i hi j hj hij).imp (hF _) (hF _)) hA
  have hU := vx_Zqof (C := Bundle.tN) (n := "UNASSIGNED_STACK") (d := Bundle.steD) (A := fun q => s.heap.size ≤ q) (hts _ (by decide +kernel)) (hts _ (by decide +kernel)) (hF _ (by decide +kernel)) hA
  have hV := vx_Zqof (C := Bundle.tN) (n := "SUPPRESSED_SENTINEL") (d := Bundle.listD) (A := fun q => s.heap.size ≤ q) (hts _ (by decide +kernel)) (hts _ (by decide +kernel)) (hF _ (by decide +kernel)) hA
  have eI : ∀ l : List Nat, (fun j => mkG l e0 e1 e2 sK sV ik (1000 + j)) = ik := fun l => funext fun j => mkG_i j
  refine ⟨D, mkG [c0, c1, c2, c3, c4, c5, c6, c7, c8] e0 e1 e2 sK sV ik, ⟨⟨hD, ?_⟩, ⟨n0, n1, n2, n3, n4, n5⟩, ?_, ?_, ?_, ⟨hAO6, hAO7, hAO8⟩, ?_, hMi⟩, hU, hV, hZ0, hT0, ?_, hCS, hHi, hZ1, ?_, ?_, hO0⟩
  · intro k q hk
    match k, hk with
    | 0, hk => cases hk; exact ⟨a0, n0⟩
    | 1, hk => cases hk; exact ⟨a1, n1⟩
    | 2, hk => cases hk; exact ⟨a2, n2⟩
    | 3, hk => cases hk; exact ⟨a3, n3⟩
    | 4, hk => cases hk; exact ⟨a4, n4⟩
    | 5, hk => cases hk; exact ⟨a5, n5⟩
    | 6, hk => cases hk; exact ⟨fun N z => ⟨fun k h => (by cases h), k6, q6, m6, r6⟩, n6⟩
    | 7, hk => cases hk; exact ⟨fun N z => ⟨fun k h => (by cases h), k7, q7, m7, r7⟩, n7⟩
    | 8, hk => cases hk; exact ⟨fun N z => ⟨fun k h => (by cases h), k8, q8, m8, r8⟩, k8, m8, q8, r8, p8, n8⟩
    | k + 9, hk => cases hk
  · intro w hw
    exact va_Nw.of (nw_tab (List.mem_filter.mp hw).2) (hts w (List.mem_append_right _ (List.mem_filter.mp hw).1))
  · intro q hq
    obtain ⟨i1, i2, i3, i4, i5⟩ := (by decide +kernel : ∀ q ∈ FWL, Cond.declares q.2.1 ∈ tables_1 ∧ Cond.interfaceMethod q.2.1.cls q.2.1.cls q.2.1.name q.2.1.desc ∈ tables_1 ∧ Cond.publicMethod q.2.2 ∈ tables_1 ∧ Cond.unhidden q.1 q.2.1.name q.2.1.desc ∈ tables_1 ∧ Cond.castable q.1 q.2.1.cls ∈ tables_1) q hq
    exact va_Fw.of (A := args) (hts _ (List.mem_append_right _ i1)) (hts _ (List.mem_append_right _ i2)) (hts _ (List.mem_append_right _ i3)) (hts _ (List.mem_append_right _ i4)) (hts _ (List.mem_append_right _ i5))
  · intro q hq
    exact va_Nc.of (hF _ ((by decide +kernel : ∀ q ∈ NCL, Cond.not (.castable q.1 q.2) ∈ lwF) q hq))
  · intro i hi
    rw [mkG_s hi]
    exact vk_R.of (hts _ ((by decide +kernel : ∀ i, i < 7 → Cond.stringRef "StuckatBenchModel" (sOwn.getD i (0, "")).1 (sOwn.getD i (0, "")).2 ∈ lw_tbl) i hi)) (hSe i hi)
  · refine ⟨fun i hi => ?_, fun i j hi hj e => hSt.2 i j hi hj ?_⟩
    · have h := hSt.1 i hi
      show va_O "java/lang/String" (mkG _ e0 e1 e2 sK sV ik (200 + i)) _ s s.heap ∧ va_OF "java/lang/String" "coder" "B" (.int 0) (mkG _ e0 e1 e2 sK sV ik (200 + i)) _ s s.heap ∧ va_OF "java/lang/String" "value" "[B" (.ref (mkG _ e0 e1 e2 sK sV ik (300 + i))) (mkG _ e0 e1 e2 sK sV ik (200 + i)) _ s s.heap ∧ va_T .byte (mkG _ e0 e1 e2 sK sV ik (300 + i)) _ _ _ s s.heap
      rw [mkG_s hi, mkG_v hi]
      exact h
    · have e : mkG _ e0 e1 e2 sK sV ik (200 + i) = mkG _ e0 e1 e2 sK sV ik (200 + j) := e
      rw [mkG_s hi, mkG_s hj] at e
      exact e
  · show va_T _ _ 256 (fun j => .ref (mkG _ e0 e1 e2 sK sV ik (1000 + j))) _ s s.heap
    rw [show (fun j : Nat => Value.ref (mkG [c0, c1, c2, c3, c4, c5, c6, c7, c8] e0 e1 e2 sK sV ik (1000 + j))) = fun j => .ref (ik j) from funext fun j => by rw [mkG_i]]
    exact hT1
  · rw [eI]
    exact hIC
