theorem dX15_marchFinds_0 : decode cX15_marchFinds 0 = .ok (.ldc_w 483, 3) := by decide +kernel
theorem dX15_marchFinds_3 : decode cX15_marchFinds 3 = .ok (.iload_n 1, 1) := by decide +kernel
theorem dX15_marchFinds_4 : decode cX15_marchFinds 4 = .ok (.invokevirtual 134, 3) := by decide +kernel
theorem dX15_marchFinds_7 : decode cX15_marchFinds 7 = .ok (.ifCond .lt 7, 3) := by decide +kernel
theorem dX15_marchFinds_10 : decode cX15_marchFinds 10 = .ok (.iconst 1, 1) := by decide +kernel
theorem dX15_marchFinds_11 : decode cX15_marchFinds 11 = .ok (.goto 4, 3) := by decide +kernel
theorem dX15_marchFinds_14 : decode cX15_marchFinds 14 = .ok (.iconst 0, 1) := by decide +kernel
theorem dX15_marchFinds_15 : decode cX15_marchFinds 15 = .ok (.istore 6, 2) := by decide +kernel
theorem dX15_marchFinds_17 : decode cX15_marchFinds 17 = .ok (.iload_n 1, 1) := by decide +kernel
theorem dX15_marchFinds_18 : decode cX15_marchFinds 18 = .ok (.bipush 99, 2) := by decide +kernel
theorem dX15_marchFinds_20 : decode cX15_marchFinds 20 = .ok (.if_icmp .eq 15, 3) := by decide +kernel
theorem dX15_marchFinds_23 : decode cX15_marchFinds 23 = .ok (.iload_n 1, 1) := by decide +kernel
theorem dX15_marchFinds_24 : decode cX15_marchFinds 24 = .ok (.bipush 105, 2) := by decide +kernel
theorem dX15_marchFinds_26 : decode cX15_marchFinds 26 = .ok (.if_icmp .eq 9, 3) := by decide +kernel
theorem dX15_marchFinds_29 : decode cX15_marchFinds 29 = .ok (.iload_n 1, 1) := by decide +kernel
theorem dX15_marchFinds_30 : decode cX15_marchFinds 30 = .ok (.bipush 97, 2) := by decide +kernel
theorem dX15_marchFinds_32 : decode cX15_marchFinds 32 = .ok (.if_icmp .ne 7, 3) := by decide +kernel
theorem dX15_marchFinds_35 : decode cX15_marchFinds 35 = .ok (.iconst 1, 1) := by decide +kernel
theorem dX15_marchFinds_36 : decode cX15_marchFinds 36 = .ok (.goto 4, 3) := by decide +kernel
theorem dX15_marchFinds_39 : decode cX15_marchFinds 39 = .ok (.iconst 0, 1) := by decide +kernel
theorem dX15_marchFinds_40 : decode cX15_marchFinds 40 = .ok (.istore 7, 2) := by decide +kernel
theorem dX15_marchFinds_42 : decode cX15_marchFinds 42 = .ok (.iload 6, 2) := by decide +kernel
theorem dX15_marchFinds_44 : decode cX15_marchFinds 44 = .ok (.ifCond .eq 69, 3) := by decide +kernel
theorem dX15_marchFinds_47 : decode cX15_marchFinds 47 = .ok (.iload_n 2, 1) := by decide +kernel
theorem dX15_marchFinds_48 : decode cX15_marchFinds 48 = .ok (.iconst 0, 1) := by decide +kernel
theorem dX15_marchFinds_49 : decode cX15_marchFinds 49 = .ok (.bipush 7, 2) := by decide +kernel
theorem dX15_marchFinds_51 : decode cX15_marchFinds 51 = .ok (.invokestatic 98, 3) := by decide +kernel
theorem dX15_marchFinds_54 : decode cX15_marchFinds 54 = .ok (.ifCond .eq 59, 3) := by decide +kernel
theorem dX15_marchFinds_57 : decode cX15_marchFinds 57 = .ok (.iload 7, 2) := by decide +kernel
theorem dX15_marchFinds_59 : decode cX15_marchFinds 59 = .ok (.ifCond .eq 18, 3) := by decide +kernel
theorem dX15_marchFinds_62 : decode cX15_marchFinds 62 = .ok (.iload_n 3, 1) := by decide +kernel
theorem dX15_marchFinds_63 : decode cX15_marchFinds 63 = .ok (.iconst 0, 1) := by decide +kernel
theorem dX15_marchFinds_64 : decode cX15_marchFinds 64 = .ok (.bipush 7, 2) := by decide +kernel
theorem dX15_marchFinds_66 : decode cX15_marchFinds 66 = .ok (.invokestatic 98, 3) := by decide +kernel
theorem dX15_marchFinds_69 : decode cX15_marchFinds 69 = .ok (.ifCond .eq 44, 3) := by decide +kernel
theorem dX15_marchFinds_72 : decode cX15_marchFinds 72 = .ok (.iload_n 2, 1) := by decide +kernel
theorem dX15_marchFinds_73 : decode cX15_marchFinds 73 = .ok (.iload_n 3, 1) := by decide +kernel
theorem dX15_marchFinds_74 : decode cX15_marchFinds 74 = .ok (.if_icmp .eq 39, 3) := by decide +kernel
theorem dX15_marchFinds_77 : decode cX15_marchFinds 77 = .ok (.iload_n 1, 1) := by decide +kernel
theorem dX15_marchFinds_78 : decode cX15_marchFinds 78 = .ok (.bipush 97, 2) := by decide +kernel
theorem dX15_marchFinds_80 : decode cX15_marchFinds 80 = .ok (.if_icmp .eq 13, 3) := by decide +kernel
theorem dX15_marchFinds_83 : decode cX15_marchFinds 83 = .ok (.iload 4, 2) := by decide +kernel
theorem dX15_marchFinds_85 : decode cX15_marchFinds 85 = .ok (.iconst 0, 1) := by decide +kernel
theorem dX15_marchFinds_86 : decode cX15_marchFinds 86 = .ok (.iconst 1, 1) := by decide +kernel
theorem dX15_marchFinds_87 : decode cX15_marchFinds 87 = .ok (.invokestatic 98, 3) := by decide +kernel
theorem dX15_marchFinds_90 : decode cX15_marchFinds 90 = .ok (.ifCond .eq 23, 3) := by decide +kernel
theorem dX15_marchFinds_93 : decode cX15_marchFinds 93 = .ok (.iload_n 1, 1) := by decide +kernel
theorem dX15_marchFinds_94 : decode cX15_marchFinds 94 = .ok (.bipush 99, 2) := by decide +kernel
theorem dX15_marchFinds_96 : decode cX15_marchFinds 96 = .ok (.if_icmp .ne 13, 3) := by decide +kernel
theorem dX15_marchFinds_99 : decode cX15_marchFinds 99 = .ok (.iload 5, 2) := by decide +kernel
theorem dX15_marchFinds_101 : decode cX15_marchFinds 101 = .ok (.iconst 0, 1) := by decide +kernel
theorem dX15_marchFinds_102 : decode cX15_marchFinds 102 = .ok (.iconst 1, 1) := by decide +kernel
theorem dX15_marchFinds_103 : decode cX15_marchFinds 103 = .ok (.invokestatic 98, 3) := by decide +kernel
theorem dX15_marchFinds_106 : decode cX15_marchFinds 106 = .ok (.ifCond .eq 7, 3) := by decide +kernel
theorem dX15_marchFinds_109 : decode cX15_marchFinds 109 = .ok (.iconst 1, 1) := by decide +kernel
theorem dX15_marchFinds_110 : decode cX15_marchFinds 110 = .ok (.goto 4, 3) := by decide +kernel
theorem dX15_marchFinds_113 : decode cX15_marchFinds 113 = .ok (.iconst 0, 1) := by decide +kernel
theorem dX15_marchFinds_114 : decode cX15_marchFinds 114 = .ok (.istore 8, 2) := by decide +kernel
theorem dX15_marchFinds_116 : decode cX15_marchFinds 116 = .ok (.aload_n 0, 1) := by decide +kernel
theorem dX15_marchFinds_117 : decode cX15_marchFinds 117 = .ok (.iload 8, 2) := by decide +kernel
theorem dX15_marchFinds_119 : decode cX15_marchFinds 119 = .ok (.ifCond .ne 7, 3) := by decide +kernel
theorem dX15_marchFinds_122 : decode cX15_marchFinds 122 = .ok (.iconst 1, 1) := by decide +kernel
theorem dX15_marchFinds_123 : decode cX15_marchFinds 123 = .ok (.goto 15, 3) := by decide +kernel
theorem dX15_marchFinds_126 : decode cX15_marchFinds 126 = .ok (.aload_n 0, 1) := by decide +kernel
theorem dX15_marchFinds_127 : decode cX15_marchFinds 127 = .ok (.invokevirtual 480, 3) := by decide +kernel
theorem dX15_marchFinds_130 : decode cX15_marchFinds 130 = .ok (.ifCond .ne 7, 3) := by decide +kernel
theorem dX15_marchFinds_133 : decode cX15_marchFinds 133 = .ok (.iconst 2, 1) := by decide +kernel
theorem dX15_marchFinds_134 : decode cX15_marchFinds 134 = .ok (.goto 4, 3) := by decide +kernel
theorem dX15_marchFinds_137 : decode cX15_marchFinds 137 = .ok (.iconst 0, 1) := by decide +kernel
theorem dX15_marchFinds_138 : decode cX15_marchFinds 138 = .ok (.invokevirtual 106, 3) := by decide +kernel
theorem dX15_marchFinds_141 : decode cX15_marchFinds 141 = .ok (.ifCond .eq 5, 3) := by decide +kernel
theorem dX15_marchFinds_144 : decode cX15_marchFinds 144 = .ok (.iconst 0, 1) := by decide +kernel
theorem dX15_marchFinds_145 : decode cX15_marchFinds 145 = .ok (.ireturn, 1) := by decide +kernel
theorem dX15_marchFinds_146 : decode cX15_marchFinds 146 = .ok (.aload_n 0, 1) := by decide +kernel
theorem dX15_marchFinds_147 : decode cX15_marchFinds 147 = .ok (.iload_n 1, 1) := by decide +kernel
theorem dX15_marchFinds_148 : decode cX15_marchFinds 148 = .ok (.iload_n 2, 1) := by decide +kernel
theorem dX15_marchFinds_149 : decode cX15_marchFinds 149 = .ok (.iload_n 3, 1) := by decide +kernel
theorem dX15_marchFinds_150 : decode cX15_marchFinds 150 = .ok (.iload 4, 2) := by decide +kernel
theorem dX15_marchFinds_152 : decode cX15_marchFinds 152 = .ok (.iload 5, 2) := by decide +kernel
theorem dX15_marchFinds_154 : decode cX15_marchFinds 154 = .ok (.invokevirtual 485, 3) := by decide +kernel
theorem dX15_marchFinds_157 : decode cX15_marchFinds 157 = .ok (.ireturn, 1) := by decide +kernel
set_option maxHeartbeats 4000000 in
set_option maxRecDepth 100000 in
theorem k_X15_isBetween_v9 (l : Launch) (D : va_G) (g : Nat → ClassId) (z0 sz : Nat) (a : Nat → Nat) (p0 : Int32) : Met l yX15_isBetween (.code yX15_isBetween cX15_isBetween 3 (some .boolean) :: TG) (rmk 0 0 0 0) (va_Pc [.int p0, .int 0, .int 7] (PP D g z0 sz [])) (va_Qi (fun (r : Int32) (u : Unit) => ((r = 0) ∧ ((p0 < 0) ∨ ((¬ p0 < 0) ∧ ((7 : Int32) < p0)))) ∨ ((r = 1) ∧ ((¬ p0 < 0) ∧ (¬ (7 : Int32) < p0)))) (fun (_ : Unit) (_ : State) => True) (va_A [] sz)) 0 0 (va_A [] sz) := by
  refine met0 (cc := cX15_isBetween) (n := 3) (by decide) (Nat.le_of_ble_eq_true rfl) ?_
  intro p e s m args below meth c hx hb hr hml hown ht hlocks hnm hP0 hD0 hK hZ hsz hz ls hl
  subst hsz
  have hA : ∀ q : Nat, s.heap.size ≤ q → va_A [] s.heap.size q := Anw
  have hAz : ∀ q, va_A [] s.heap.size q → z0 ≤ q := A0z hz
  have hS : va_S (va_A [] s.heap.size) s.heap s.heap [] := va_S.rf
  have hl : lv_has ls 3 [(0, .int p0), (1, .int 0), (2, .int 7)] := hl
  refine lv_iload_n hx hb dX15_isBetween_0 rfl (lv_at hl 1 rfl) ?_
  refine lv_iload_n hx hb dX15_isBetween_1 rfl (lv_at hl 0 rfl) ?_
  refine lv_icmp_gt (tgt := 14) hx hb dX15_isBetween_2 (by decide) (fun c_1 => ?_) (fun c_1 => ?_)
  · refine lv_iconst (v := 0) hx hb dX15_isBetween_14 (by decide) ?_
    refine W.widen (k := 0) (n := 0) (Nat.le_of_ble_eq_true rfl) (Nat.le_of_ble_eq_true rfl) ?_
    exact W.zret (v := 0) hx hb hr rfl (fun t ht9 hW9 => ⟨⟨0, (), rfl, (Or.inl ⟨rfl, (Or.inl c_1)⟩), trivial⟩, hS.F ht9⟩) hS.2.2 dX15_isBetween_15 hlocks
  · refine lv_iload_n hx hb dX15_isBetween_5 rfl (lv_at hl 0 rfl) ?_
    refine lv_iload_n hx hb dX15_isBetween_6 rfl (lv_at hl 2 rfl) ?_
    refine lv_icmp_gt (tgt := 14) hx hb dX15_isBetween_7 (by decide) (fun c_2 => ?_) (fun c_2 => ?_)
    · refine lv_iconst (v := 0) hx hb dX15_isBetween_14 (by decide) ?_
      refine W.widen (k := 0) (n := 0) (Nat.le_of_ble_eq_true rfl) (Nat.le_of_ble_eq_true rfl) ?_
      exact W.zret (v := 0) hx hb hr rfl (fun t ht9 hW9 => ⟨⟨0, (), rfl, (Or.inl ⟨rfl, (Or.inr ⟨c_1, c_2⟩)⟩), trivial⟩, hS.F ht9⟩) hS.2.2 dX15_isBetween_15 hlocks
    · refine lv_iconst (v := 1) hx hb dX15_isBetween_10 (by decide) ?_
      refine lv_goto (tgt := 15) hx hb dX15_isBetween_11 (by decide) ?_
      refine W.widen (k := 0) (n := 0) (Nat.le_of_ble_eq_true rfl) (Nat.le_of_ble_eq_true rfl) ?_
      exact W.zret (v := 1) hx hb hr rfl (fun t ht9 hW9 => ⟨⟨1, (), rfl, (Or.inr ⟨rfl, ⟨c_1, c_2⟩⟩), trivial⟩, hS.F ht9⟩) hS.2.2 dX15_isBetween_15 hlocks
set_option maxHeartbeats 4000000 in
set_option maxRecDepth 100000 in
theorem k_X15_marchFinds (l : Launch) (D : va_G) (g : Nat → ClassId) (z0 sz : Nat) (a : Nat → Nat) (p0 : Int32) (p1 : Int32) (p2 : Int32) (p3 : Int32) (p4 : Int32) (hc_p0 : isC p0) : Met l yX15_marchFinds (.code yX15_marchFinds cX15_marchFinds 9 (some .boolean) :: TG) (rmk 4 0 0 91) (va_Pc [.ref (a 200), .int p0, .int p1, .int p2, .int p3, .int p4] (PP D g z0 sz [((a 200), f_m a g)])) (va_Qi (fun (r : Int32) (u : Int32) => ((r = 0) ∧ (u = 1) ∧ (((¬ p0 = 115) ∧ (¬ p0 = 116) ∧ (¬ p0 = 99) ∧ (¬ p0 = 105) ∧ (¬ p0 = 97)) ∨ ((¬ p0 = 115) ∧ (¬ p0 = 116) ∧ (¬ p0 = 99) ∧ (¬ p0 = 105) ∧ (¬ p0 = 97)) ∨ ((¬ p0 = 115) ∧ (¬ p0 = 116) ∧ (¬ p0 = 99) ∧ (¬ p0 = 105) ∧ (¬ p0 = 97)) ∨ ((p0 = 97) ∧ (¬ p0 = 99) ∧ (¬ p0 = 105) ∧ (p1 < 0)) ∨ ((p0 = 97) ∧ (¬ p0 = 99) ∧ (¬ p0 = 105) ∧ (¬ p1 < 0) ∧ ((7 : Int32) < p1)) ∨ ((p0 = 97) ∧ (¬ p0 = 99) ∧ (¬ p0 = 105) ∧ (¬ p1 < 0) ∧ (¬ (7 : Int32) < p1) ∧ (p2 < 0)) ∨ ((p0 = 97) ∧ (¬ p0 = 99) ∧ (¬ p0 = 105) ∧ (¬ p1 < 0) ∧ (¬ (7 : Int32) < p1) ∧ (¬ p2 < 0) ∧ ((7 : Int32) < p2)) ∨ ((p0 = 97) ∧ (¬ p0 = 99) ∧ (¬ p0 = 105) ∧ (¬ p1 < 0) ∧ (¬ (7 : Int32) < p1) ∧ (¬ p2 < 0) ∧ (¬ (7 : Int32) < p2) ∧ (p1 = p2)) ∨ ((p0 = 105) ∧ (¬ p0 = 99) ∧ (p1 < 0)) ∨ ((p0 = 105) ∧ (¬ p0 = 99) ∧ (¬ p1 < 0) ∧ ((7 : Int32) < p1)) ∨ ((p0 = 105) ∧ (¬ p0 = 99) ∧ (¬ p1 < 0) ∧ (¬ (7 : Int32) < p1) ∧ (p2 < 0)) ∨ ((p0 = 105) ∧ (¬ p0 = 99) ∧ (¬ p1 < 0) ∧ (¬ (7 : Int32) < p1) ∧ (¬ p2 < 0) ∧ ((7 : Int32) < p2)) ∨ ((p0 = 105) ∧ (¬ p0 = 99) ∧ (¬ p1 < 0) ∧ (¬ (7 : Int32) < p1) ∧ (¬ p2 < 0) ∧ (¬ (7 : Int32) < p2) ∧ (p1 = p2)) ∨ ((p0 = 105) ∧ (¬ p0 = 99) ∧ (¬ p1 < 0) ∧ (¬ (7 : Int32) < p1) ∧ (¬ p2 < 0) ∧ (¬ (7 : Int32) < p2) ∧ (¬ p1 = p2) ∧ (¬ p0 = 97) ∧ (p3 < 0)) ∨ ((p0 = 105) ∧ (¬ p0 = 99) ∧ (¬ p1 < 0) ∧ (¬ (7 : Int32) < p1) ∧ (¬ p2 < 0) ∧ (¬ (7 : Int32) < p2) ∧ (¬ p1 = p2) ∧ (¬ p0 = 97) ∧ (¬ p3 < 0) ∧ ((1 : Int32) < p3)) ∨ ((p0 = 99) ∧ (p1 < 0)) ∨ ((p0 = 99) ∧ (¬ p1 < 0) ∧ ((7 : Int32) < p1)) ∨ ((p0 = 99) ∧ (¬ p1 < 0) ∧ (¬ (7 : Int32) < p1) ∧ (p2 < 0)) ∨ ((p0 = 99) ∧ (¬ p1 < 0) ∧ (¬ (7 : Int32) < p1) ∧ (¬ p2 < 0) ∧ ((7 : Int32) < p2)) ∨ ((p0 = 99) ∧ (¬ p1 < 0) ∧ (¬ (7 : Int32) < p1) ∧ (¬ p2 < 0) ∧ (¬ (7 : Int32) < p2) ∧ (p1 = p2)) ∨ ((p0 = 99) ∧ (¬ p1 < 0) ∧ (¬ (7 : Int32) < p1) ∧ (¬ p2 < 0) ∧ (¬ (7 : Int32) < p2) ∧ (¬ p1 = p2) ∧ (¬ p0 = 97) ∧ (p3 < 0)) ∨ ((p0 = 99) ∧ (¬ p1 < 0) ∧ (¬ (7 : Int32) < p1) ∧ (¬ p2 < 0) ∧ (¬ (7 : Int32) < p2) ∧ (¬ p1 = p2) ∧ (¬ p0 = 97) ∧ (¬ p3 < 0) ∧ ((1 : Int32) < p3)) ∨ ((p0 = 99) ∧ (¬ p1 < 0) ∧ (¬ (7 : Int32) < p1) ∧ (¬ p2 < 0) ∧ (¬ (7 : Int32) < p2) ∧ (¬ p1 = p2) ∧ (¬ p0 = 97) ∧ (¬ p3 < 0) ∧ (¬ (1 : Int32) < p3) ∧ (p4 < 0)) ∨ ((p0 = 99) ∧ (¬ p1 < 0) ∧ (¬ (7 : Int32) < p1) ∧ (¬ p2 < 0) ∧ (¬ (7 : Int32) < p2) ∧ (¬ p1 = p2) ∧ (¬ p0 = 97) ∧ (¬ p3 < 0) ∧ (¬ (1 : Int32) < p3) ∧ (¬ p4 < 0) ∧ ((1 : Int32) < p4)) ∨ ((p0 = 116) ∧ (¬ p0 = 99) ∧ (¬ p0 = 105) ∧ (¬ p0 = 97) ∧ (p1 < 0)) ∨ ((p0 = 116) ∧ (¬ p0 = 99) ∧ (¬ p0 = 105) ∧ (¬ p0 = 97) ∧ (¬ p1 < 0) ∧ ((7 : Int32) < p1)) ∨ ((p0 = 116) ∧ (¬ p0 = 99) ∧ (¬ p0 = 105) ∧ (¬ p0 = 97) ∧ (¬ p1 < 0) ∧ (¬ (7 : Int32) < p1) ∧ (p3 < 0)) ∨ ((p0 = 116) ∧ (¬ p0 = 99) ∧ (¬ p0 = 105) ∧ (¬ p0 = 97) ∧ (¬ p1 < 0) ∧ (¬ (7 : Int32) < p1) ∧ (¬ p3 < 0) ∧ ((1 : Int32) < p3)) ∨ ((p0 = 115) ∧ (¬ p0 = 99) ∧ (¬ p0 = 105) ∧ (¬ p0 = 97) ∧ (p1 < 0)) ∨ ((p0 = 115) ∧ (¬ p0 = 99) ∧ (¬ p0 = 105) ∧ (¬ p0 = 97) ∧ (¬ p1 < 0) ∧ ((7 : Int32) < p1)) ∨ ((p0 = 115) ∧ (¬ p0 = 99) ∧ (¬ p0 = 105) ∧ (¬ p0 = 97) ∧ (¬ p1 < 0) ∧ (¬ (7 : Int32) < p1) ∧ (p3 < 0)) ∨ ((p0 = 115) ∧ (¬ p0 = 99) ∧ (¬ p0 = 105) ∧ (¬ p0 = 97) ∧ (¬ p1 < 0) ∧ (¬ (7 : Int32) < p1) ∧ (¬ p3 < 0) ∧ ((1 : Int32) < p3)))) ∨ ((r = 0) ∧ (u = 2) ∧ (((p0 = 97) ∧ (¬ p0 = 99) ∧ (¬ p0 = 105) ∧ (¬ p1 < 0) ∧ (¬ (7 : Int32) < p1) ∧ (¬ p2 < 0) ∧ (¬ (7 : Int32) < p2) ∧ (¬ p1 = p2)) ∨ ((p0 = 105) ∧ (¬ p0 = 99) ∧ (¬ p1 < 0) ∧ (¬ (7 : Int32) < p1) ∧ (¬ p2 < 0) ∧ (¬ (7 : Int32) < p2) ∧ (¬ p1 = p2) ∧ (¬ p0 = 97) ∧ (¬ p3 < 0) ∧ (¬ (1 : Int32) < p3)) ∨ ((p0 = 99) ∧ (¬ p1 < 0) ∧ (¬ (7 : Int32) < p1) ∧ (¬ p2 < 0) ∧ (¬ (7 : Int32) < p2) ∧ (¬ p1 = p2) ∧ (¬ p0 = 97) ∧ (¬ p3 < 0) ∧ (¬ (1 : Int32) < p3) ∧ (¬ p4 < 0) ∧ (¬ (1 : Int32) < p4)) ∨ ((p0 = 116) ∧ (¬ p0 = 99) ∧ (¬ p0 = 105) ∧ (¬ p0 = 97) ∧ (¬ p1 < 0) ∧ (¬ (7 : Int32) < p1) ∧ (¬ p3 < 0) ∧ (¬ (1 : Int32) < p3)) ∨ ((p0 = 115) ∧ (¬ p0 = 99) ∧ (¬ p0 = 105) ∧ (¬ p0 = 97) ∧ (¬ p1 < 0) ∧ (¬ (7 : Int32) < p1) ∧ (¬ p3 < 0) ∧ (¬ (1 : Int32) < p3))))) (fun (u : Int32) (t : State) => va_P D vwCl [((a 200), .inr (21, [.int u, .ref (a 201), .ref (a 202), .ref (a 203), .ref (a 204), .ref (a 205), .ref (a 206), .int 0, .int 0, .int 0, .int 0, .ref (a 208), .ref (a 209), .ref (a 210), .ref (a 211), .ref (a 212), .int 4, .int 12, .int (-1), .int 0, .ref (g 200), .ref (a 213), .int 0, .int 97, .ref (a 214), .ref (a 215), .ref (a 207), .null, .int 0]))] t.heap ∧ va_D (va_A [((a 200), f_m a g)] sz) [((a 200), .inr (21, [.int u, .ref (a 201), .ref (a 202), .ref (a 203), .ref (a 204), .ref (a 205), .ref (a 206), .int 0, .int 0, .int 0, .int 0, .ref (a 208), .ref (a 209), .ref (a 210), .ref (a 211), .ref (a 212), .int 4, .int 12, .int (-1), .int 0, .ref (g 200), .ref (a 213), .int 0, .int 97, .ref (a 214), .ref (a 215), .ref (a 207), .null, .int 0]))]) (va_A [((a 200), f_m a g)] sz)) 0 0 (va_A [((a 200), f_m a g)] sz) := by
  refine met0 (cc := cX15_marchFinds) (n := 9) (by decide) (Nat.le_of_ble_eq_true rfl) ?_
  intro p e s m args below meth c hx hb hr hml hown ht hlocks hnm hP0 hD0 hK hZ hsz hz ls hl
  subst hsz
  have hA : ∀ q : Nat, s.heap.size ≤ q → va_A [((a 200), f_m a g)] s.heap.size q := Anw
  have hAz : ∀ q, va_A [((a 200), f_m a g)] s.heap.size q → z0 ≤ q := Awz hz hD0
  have hS : va_S (va_A [((a 200), f_m a g)] s.heap.size) s.heap s.heap [] := va_S.rf
  have hD : va_D (va_A [((a 200), f_m a g)] s.heap.size) [((a 200), f_m a g)] := hD0.self
  have hP : va_P D vwCl [((a 200), f_m a g)] s.heap := hP0
  have hl : lv_has ls 9 [(0, .ref (a 200)), (1, .int p0), (2, .int p1), (3, .int p2), (4, .int p3), (5, .int p4)] := hl
  refine r_ldcSw (index := 483) (tx := "stcia") (q := g 206) hx hb hown (hK.2.2.2.2.2.2.1 6 (by decide)) dX15_marchFinds_0 ?_
  refine lv_iload_n hx hb dX15_marchFinds_3 rfl (lv_at hl 1 rfl) ?_
  have hPc : va_P D vwCl [] _ := hP.sub (ws' := []) [] rfl
  have hDc : va_D (fun q => z0 ≤ q) [] := (hD.to hAz).pick (ws' := []) [] (by decide) rfl
  have hFc := AnA (ws := [((a 200), f_m a g)]) hS.1
  refine va_calli (va_runV (As := [.int p0]) (rest := []) ⟨hx, hb, hml, hown, ht⟩ (k_J0_indexOf_0f7a4_v3 l D g z0 _ a p0) (cwV 1 ht (gV w_425 w_427 w_428 w_394 w_426) rfl rfl rfl (by decide +kernel) (le2 rfl rfl)) ⟨PP.blind, vk_recv (i := 6) (hZ.m hAz).2.2.1 (by decide) hS, PP.mk' hK hZ hz hAz hS hPc hDc⟩ rfl rfl hl.1 rfl (lv_room (Nat.le_of_ble_eq_true rfl)) dX15_marchFinds_4 (le2 rfl rfl)) hS (fun q _ h => hFc q h) hFc (fun r u t H locs ht1 hvm hw hB hz1 hk1 hS => ?_)
  rcases hw with hw | hw | hw | hw | hw | hw
  · obtain ⟨rfl, hw⟩ := hw
    rcases hw with hw | hw | hw
    · obtain ⟨c_1, c_2, c_3, c_4, c_5⟩ := hw
      have hP := ro1 hP hk1
      refine lv_if_lt (tgt := 14) hx hb dX15_marchFinds_7 (by decide) (fun c_6 => ?_) (fun c_6 => ?_)
      · refine lv_iconst (v := 0) hx hb dX15_marchFinds_14 (by decide) ?_
        refine lv_istore (lv' := [(6, .int 0), (0, .ref (a 200)), (1, .int p0), (2, .int p1), (3, .int p2), (4, .int p3), (5, .int p4)]) hx hb dX15_marchFinds_15 hl (by decide) rfl (fun ls hl => ?_)
        refine lv_iload_n hx hb dX15_marchFinds_17 rfl (lv_at hl 2 rfl) ?_
        refine lv_bipush (v := 99) hx hb dX15_marchFinds_18 (by decide) ?_
        refine lv_icmp_eq (tgt := 35) hx hb dX15_marchFinds_20 (by decide) (fun c_7 => ?_) (fun c_7 => ?_)
        · exact absurd c_7 c_3
        · refine lv_iload_n hx hb dX15_marchFinds_23 rfl (lv_at hl 2 rfl) ?_
          refine lv_bipush (v := 105) hx hb dX15_marchFinds_24 (by decide) ?_
          refine lv_icmp_eq (tgt := 35) hx hb dX15_marchFinds_26 (by decide) (fun c_8 => ?_) (fun c_8 => ?_)
          · exact absurd c_8 c_4
          · refine lv_iload_n hx hb dX15_marchFinds_29 rfl (lv_at hl 2 rfl) ?_
            refine lv_bipush (v := 97) hx hb dX15_marchFinds_30 (by decide) ?_
            refine lv_icmp_ne (tgt := 39) hx hb dX15_marchFinds_32 (by decide) (fun c_9 => ?_) (fun c_9 => ?_)
            · refine lv_iconst (v := 0) hx hb dX15_marchFinds_39 (by decide) ?_
              refine lv_istore (lv' := [(7, .int 0), (6, .int 0), (0, .ref (a 200)), (1, .int p0), (2, .int p1), (3, .int p2), (4, .int p3), (5, .int p4)]) hx hb dX15_marchFinds_40 hl (by decide) rfl (fun ls hl => ?_)
              refine lv_iload hx hb dX15_marchFinds_42 (lv_at hl 1 rfl) ?_
              refine lv_if_eq (tgt := 113) hx hb dX15_marchFinds_44 (by decide) (fun c_10 => ?_) (fun c_10 => ?_)
              · refine lv_iconst (v := 0) hx hb dX15_marchFinds_113 (by decide) ?_
                refine lv_istore (lv' := [(8, .int 0), (7, .int 0), (6, .int 0), (0, .ref (a 200)), (1, .int p0), (2, .int p1), (3, .int p2), (4, .int p3), (5, .int p4)]) hx hb dX15_marchFinds_114 hl (by decide) rfl (fun ls hl => ?_)
                refine lv_aload_n hx hb dX15_marchFinds_116 rfl (lv_at hl 3 rfl) ?_
                refine lv_iload hx hb dX15_marchFinds_117 (lv_at hl 0 rfl) ?_
                refine lv_if_ne (tgt := 126) hx hb dX15_marchFinds_119 (by decide) (fun c_11 => ?_) (fun c_11 => ?_)
                · exact absurd c_11 (by decide)
                · refine lv_iconst (v := 1) hx hb dX15_marchFinds_122 (by decide) ?_
                  refine lv_goto (tgt := 138) hx hb dX15_marchFinds_123 (by decide) ?_
                  have hPc : va_P D vwCl [((a 200), f_m a g)] _ := hP.sub (ws' := [((a 200), f_m a g)]) [0] rfl
                  have hDc : va_D (fun q => z0 ≤ q) [((a 200), f_m a g)] := (hD.to hAz).pick (ws' := [((a 200), f_m a g)]) [0] (by decide) rfl
                  have hFc := va_free (wc := [((a 200), f_m a g)]) hD hS hA [0] rfl
                  refine va_calli (va_runV (As := [.int 1]) (rest := []) ⟨hx, hb, hml, hown, ht⟩ (k_X15_isWrong l D g z0 _ a) (cwV 1 ht (gV w_376 w_378 w_379 w_334 w_377) rfl rfl rfl (by decide +kernel) (le2 rfl rfl)) ⟨PP.blind, va_recv hK.1 hP (ci := 21) (q0 := 0) rfl rfl, PP.mk' hK hZ hz hAz hS hPc hDc⟩ rfl rfl hl.1 rfl (lv_room (Nat.le_of_ble_eq_true rfl)) dX15_marchFinds_138 (le2 rfl rfl)) hS (fun q _ h => hFc q h) hFc (fun r u t H locs ht1 hvm hw hB hz1 hk1 hS => ?_)
                  obtain ⟨rfl, hw⟩ := hw
                  obtain ⟨hP1, hD1⟩ := hB
                  rw [ht1] at hP1
                  obtain ⟨hP, hD⟩ := va_join (wr := []) (w1 := [((a 200), .inr (21, [.int 1, .ref (a 201), .ref (a 202), .ref (a 203), .ref (a 204), .ref (a 205), .ref (a 206), .int 0, .int 0, .int 0, .int 0, .ref (a 208), .ref (a 209), .ref (a 210), .ref (a 211), .ref (a 212), .int 4, .int 12, .int (-1), .int 0, .ref (g 200), .ref (a 213), .int 0, .int 97, .ref (a 214), .ref (a 215), .ref (a 207), .null, .int 0]))]) hP hD [0] [] rfl rfl (by decide) (by decide) hk1 hFc hP1 hD1
                  have hP : va_P D vwCl [((a 200), .inr (21, [.int 1, .ref (a 201), .ref (a 202), .ref (a 203), .ref (a 204), .ref (a 205), .ref (a 206), .int 0, .int 0, .int 0, .int 0, .ref (a 208), .ref (a 209), .ref (a 210), .ref (a 211), .ref (a 212), .int 4, .int 12, .int (-1), .int 0, .ref (g 200), .ref (a 213), .int 0, .int 97, .ref (a 214), .ref (a 215), .ref (a 207), .null, .int 0]))] H := hP
                  have hD : va_D (va_A [((a 200), f_m a g)] s.heap.size) [((a 200), .inr (21, [.int 1, .ref (a 201), .ref (a 202), .ref (a 203), .ref (a 204), .ref (a 205), .ref (a 206), .int 0, .int 0, .int 0, .int 0, .ref (a 208), .ref (a 209), .ref (a 210), .ref (a 211), .ref (a 212), .int 4, .int 12, .int (-1), .int 0, .ref (g 200), .ref (a 213), .int 0, .int 97, .ref (a 214), .ref (a 215), .ref (a 207), .null, .int 0]))] := hD
                  refine lv_if_eq (tgt := 146) hx hb dX15_marchFinds_141 (by decide) (fun c_12 => ?_) (fun c_12 => ?_)
                  · exact absurd c_12 (by decide)
                  · refine lv_iconst (v := 0) hx hb dX15_marchFinds_144 (by decide) ?_
                    have hP9 := hP.sub (ws' := [((a 200), .inr (21, [.int 1, .ref (a 201), .ref (a 202), .ref (a 203), .ref (a 204), .ref (a 205), .ref (a 206), .int 0, .int 0, .int 0, .int 0, .ref (a 208), .ref (a 209), .ref (a 210), .ref (a 211), .ref (a 212), .int 4, .int 12, .int (-1), .int 0, .ref (g 200), .ref (a 213), .int 0, .int 97, .ref (a 214), .ref (a 215), .ref (a 207), .null, .int 0]))]) [0] rfl
                    have hD9 := hD.sub (ws' := [((a 200), .inr (21, [.int 1, .ref (a 201), .ref (a 202), .ref (a 203), .ref (a 204), .ref (a 205), .ref (a 206), .int 0, .int 0, .int 0, .int 0, .ref (a 208), .ref (a 209), .ref (a 210), .ref (a 211), .ref (a 212), .int 4, .int 12, .int (-1), .int 0, .ref (g 200), .ref (a 213), .int 0, .int 97, .ref (a 214), .ref (a 215), .ref (a 207), .null, .int 0]))]) [0] (by decide) rfl
                    refine W.widen (k := 0) (n := 0) (Nat.le_of_ble_eq_true rfl) (Nat.le_of_ble_eq_true rfl) ?_
                    exact W.zret (v := 0) hx hb hr rfl (fun t ht9 hW9 => ⟨⟨0, 1, rfl, (Or.inl ⟨rfl, rfl, (Or.inl ⟨c_1, c_2, c_3, c_4, c_5⟩)⟩), ⟨(by rw [ht9]; exact hP9), hD9⟩⟩, hS.F ht9⟩) hS.2.2 dX15_marchFinds_145 hlocks
              · exact absurd c_10 (by decide)
            · exact absurd c_9 c_5
      · exact absurd c_6 (by decide)
    · obtain ⟨c_13, c_14, c_15, c_16, c_17⟩ := hw
      have hP := ro1 hP hk1
      refine lv_if_lt (tgt := 14) hx hb dX15_marchFinds_7 (by decide) (fun c_18 => ?_) (fun c_18 => ?_)
      · refine lv_iconst (v := 0) hx hb dX15_marchFinds_14 (by decide) ?_
        refine lv_istore (lv' := [(6, .int 0), (0, .ref (a 200)), (1, .int p0), (2, .int p1), (3, .int p2), (4, .int p3), (5, .int p4)]) hx hb dX15_marchFinds_15 hl (by decide) rfl (fun ls hl => ?_)
        refine lv_iload_n hx hb dX15_marchFinds_17 rfl (lv_at hl 2 rfl) ?_
        refine lv_bipush (v := 99) hx hb dX15_marchFinds_18 (by decide) ?_
        refine lv_icmp_eq (tgt := 35) hx hb dX15_marchFinds_20 (by decide) (fun c_19 => ?_) (fun c_19 => ?_)
        · exact absurd c_19 c_15
        · refine lv_iload_n hx hb dX15_marchFinds_23 rfl (lv_at hl 2 rfl) ?_
          refine lv_bipush (v := 105) hx hb dX15_marchFinds_24 (by decide) ?_
          refine lv_icmp_eq (tgt := 35) hx hb dX15_marchFinds_26 (by decide) (fun c_20 => ?_) (fun c_20 => ?_)
          · exact absurd c_20 c_16
          · refine lv_iload_n hx hb dX15_marchFinds_29 rfl (lv_at hl 2 rfl) ?_
            refine lv_bipush (v := 97) hx hb dX15_marchFinds_30 (by decide) ?_
            refine lv_icmp_ne (tgt := 39) hx hb dX15_marchFinds_32 (by decide) (fun c_21 => ?_) (fun c_21 => ?_)
            · refine lv_iconst (v := 0) hx hb dX15_marchFinds_39 (by decide) ?_
              refine lv_istore (lv' := [(7, .int 0), (6, .int 0), (0, .ref (a 200)), (1, .int p0), (2, .int p1), (3, .int p2), (4, .int p3), (5, .int p4)]) hx hb dX15_marchFinds_40 hl (by decide) rfl (fun ls hl => ?_)
              refine lv_iload hx hb dX15_marchFinds_42 (lv_at hl 1 rfl) ?_
              refine lv_if_eq (tgt := 113) hx hb dX15_marchFinds_44 (by decide) (fun c_22 => ?_) (fun c_22 => ?_)
              · refine lv_iconst (v := 0) hx hb dX15_marchFinds_113 (by decide) ?_
                refine lv_istore (lv' := [(8, .int 0), (7, .int 0), (6, .int 0), (0, .ref (a 200)), (1, .int p0), (2, .int p1), (3, .int p2), (4, .int p3), (5, .int p4)]) hx hb dX15_marchFinds_114 hl (by decide) rfl (fun ls hl => ?_)
                refine lv_aload_n hx hb dX15_marchFinds_116 rfl (lv_at hl 3 rfl) ?_
                refine lv_iload hx hb dX15_marchFinds_117 (lv_at hl 0 rfl) ?_
                refine lv_if_ne (tgt := 126) hx hb dX15_marchFinds_119 (by decide) (fun c_23 => ?_) (fun c_23 => ?_)
                · exact absurd c_23 (by decide)
                · refine lv_iconst (v := 1) hx hb dX15_marchFinds_122 (by decide) ?_
                  refine lv_goto (tgt := 138) hx hb dX15_marchFinds_123 (by decide) ?_
                  have hPc : va_P D vwCl [((a 200), f_m a g)] _ := hP.sub (ws' := [((a 200), f_m a g)]) [0] rfl
                  have hDc : va_D (fun q => z0 ≤ q) [((a 200), f_m a g)] := (hD.to hAz).pick (ws' := [((a 200), f_m a g)]) [0] (by decide) rfl
                  have hFc := va_free (wc := [((a 200), f_m a g)]) hD hS hA [0] rfl
                  refine va_calli (va_runV (As := [.int 1]) (rest := []) ⟨hx, hb, hml, hown, ht⟩ (k_X15_isWrong l D g z0 _ a) (cwV 1 ht (gV w_376 w_378 w_379 w_334 w_377) rfl rfl rfl (by decide +kernel) (le2 rfl rfl)) ⟨PP.blind, va_recv hK.1 hP (ci := 21) (q0 := 0) rfl rfl, PP.mk' hK hZ hz hAz hS hPc hDc⟩ rfl rfl hl.1 rfl (lv_room (Nat.le_of_ble_eq_true rfl)) dX15_marchFinds_138 (le2 rfl rfl)) hS (fun q _ h => hFc q h) hFc (fun r u t H locs ht1 hvm hw hB hz1 hk1 hS => ?_)
                  obtain ⟨rfl, hw⟩ := hw
                  obtain ⟨hP1, hD1⟩ := hB
                  rw [ht1] at hP1
                  obtain ⟨hP, hD⟩ := va_join (wr := []) (w1 := [((a 200), .inr (21, [.int 1, .ref (a 201), .ref (a 202), .ref (a 203), .ref (a 204), .ref (a 205), .ref (a 206), .int 0, .int 0, .int 0, .int 0, .ref (a 208), .ref (a 209), .ref (a 210), .ref (a 211), .ref (a 212), .int 4, .int 12, .int (-1), .int 0, .ref (g 200), .ref (a 213), .int 0, .int 97, .ref (a 214), .ref (a 215), .ref (a 207), .null, .int 0]))]) hP hD [0] [] rfl rfl (by decide) (by decide) hk1 hFc hP1 hD1
                  have hP : va_P D vwCl [((a 200), .inr (21, [.int 1, .ref (a 201), .ref (a 202), .ref (a 203), .ref (a 204), .ref (a 205), .ref (a 206), .int 0, .int 0, .int 0, .int 0, .ref (a 208), .ref (a 209), .ref (a 210), .ref (a 211), .ref (a 212), .int 4, .int 12, .int (-1), .int 0, .ref (g 200), .ref (a 213), .int 0, .int 97, .ref (a 214), .ref (a 215), .ref (a 207), .null, .int 0]))] H := hP
                  have hD : va_D (va_A [((a 200), f_m a g)] s.heap.size) [((a 200), .inr (21, [.int 1, .ref (a 201), .ref (a 202), .ref (a 203), .ref (a 204), .ref (a 205), .ref (a 206), .int 0, .int 0, .int 0, .int 0, .ref (a 208), .ref (a 209), .ref (a 210), .ref (a 211), .ref (a 212), .int 4, .int 12, .int (-1), .int 0, .ref (g 200), .ref (a 213), .int 0, .int 97, .ref (a 214), .ref (a 215), .ref (a 207), .null, .int 0]))] := hD
                  refine lv_if_eq (tgt := 146) hx hb dX15_marchFinds_141 (by decide) (fun c_24 => ?_) (fun c_24 => ?_)
                  · exact absurd c_24 (by decide)
                  · refine lv_iconst (v := 0) hx hb dX15_marchFinds_144 (by decide) ?_
                    have hP9 := hP.sub (ws' := [((a 200), .inr (21, [.int 1, .ref (a 201), .ref (a 202), .ref (a 203), .ref (a 204), .ref (a 205), .ref (a 206), .int 0, .int 0, .int 0, .int 0, .ref (a 208), .ref (a 209), .ref (a 210), .ref (a 211), .ref (a 212), .int 4, .int 12, .int (-1), .int 0, .ref (g 200), .ref (a 213), .int 0, .int 97, .ref (a 214), .ref (a 215), .ref (a 207), .null, .int 0]))]) [0] rfl
                    have hD9 := hD.sub (ws' := [((a 200), .inr (21, [.int 1, .ref (a 201), .ref (a 202), .ref (a 203), .ref (a 204), .ref (a 205), .ref (a 206), .int 0, .int 0, .int 0, .int 0, .ref (a 208), .ref (a 209), .ref (a 210), .ref (a 211), .ref (a 212), .int 4, .int 12, .int (-1), .int 0, .ref (g 200), .ref (a 213), .int 0, .int 97, .ref (a 214), .ref (a 215), .ref (a 207), .null, .int 0]))]) [0] (by decide) rfl
                    refine W.widen (k := 0) (n := 0) (Nat.le_of_ble_eq_true rfl) (Nat.le_of_ble_eq_true rfl) ?_
                    exact W.zret (v := 0) hx hb hr rfl (fun t ht9 hW9 => ⟨⟨0, 1, rfl, (Or.inl ⟨rfl, rfl, (Or.inl ⟨c_13, c_14, c_15, c_16, c_17⟩)⟩), ⟨(by rw [ht9]; exact hP9), hD9⟩⟩, hS.F ht9⟩) hS.2.2 dX15_marchFinds_145 hlocks
              · exact absurd c_22 (by decide)
            · exact absurd c_21 c_17
      · exact absurd c_18 (by decide)
    · obtain ⟨c_25, c_26, c_27, c_28, c_29⟩ := hw
      have hP := ro1 hP hk1
      refine lv_if_lt (tgt := 14) hx hb dX15_marchFinds_7 (by decide) (fun c_30 => ?_) (fun c_30 => ?_)
      · refine lv_iconst (v := 0) hx hb dX15_marchFinds_14 (by decide) ?_
        refine lv_istore (lv' := [(6, .int 0), (0, .ref (a 200)), (1, .int p0), (2, .int p1), (3, .int p2), (4, .int p3), (5, .int p4)]) hx hb dX15_marchFinds_15 hl (by decide) rfl (fun ls hl => ?_)
        refine lv_iload_n hx hb dX15_marchFinds_17 rfl (lv_at hl 2 rfl) ?_
        refine lv_bipush (v := 99) hx hb dX15_marchFinds_18 (by decide) ?_
        refine lv_icmp_eq (tgt := 35) hx hb dX15_marchFinds_20 (by decide) (fun c_31 => ?_) (fun c_31 => ?_)
        · exact absurd c_31 c_27
        · refine lv_iload_n hx hb dX15_marchFinds_23 rfl (lv_at hl 2 rfl) ?_
          refine lv_bipush (v := 105) hx hb dX15_marchFinds_24 (by decide) ?_
          refine lv_icmp_eq (tgt := 35) hx hb dX15_marchFinds_26 (by decide) (fun c_32 => ?_) (fun c_32 => ?_)
          · exact absurd c_32 c_28
          · refine lv_iload_n hx hb dX15_marchFinds_29 rfl (lv_at hl 2 rfl) ?_
            refine lv_bipush (v := 97) hx hb dX15_marchFinds_30 (by decide) ?_
            refine lv_icmp_ne (tgt := 39) hx hb dX15_marchFinds_32 (by decide) (fun c_33 => ?_) (fun c_33 => ?_)
            · refine lv_iconst (v := 0) hx hb dX15_marchFinds_39 (by decide) ?_
              refine lv_istore (lv' := [(7, .int 0), (6, .int 0), (0, .ref (a 200)), (1, .int p0), (2, .int p1), (3, .int p2), (4, .int p3), (5, .int p4)]) hx hb dX15_marchFinds_40 hl (by decide) rfl (fun ls hl => ?_)
              refine lv_iload hx hb dX15_marchFinds_42 (lv_at hl 1 rfl) ?_
              refine lv_if_eq (tgt := 113) hx hb dX15_marchFinds_44 (by decide) (fun c_34 => ?_) (fun c_34 => ?_)
              · refine lv_iconst (v := 0) hx hb dX15_marchFinds_113 (by decide) ?_
                refine lv_istore (lv' := [(8, .int 0), (7, .int 0), (6, .int 0), (0, .ref (a 200)), (1, .int p0), (2, .int p1), (3, .int p2), (4, .int p3), (5, .int p4)]) hx hb dX15_marchFinds_114 hl (by decide) rfl (fun ls hl => ?_)
                refine lv_aload_n hx hb dX15_marchFinds_116 rfl (lv_at hl 3 rfl) ?_
                refine lv_iload hx hb dX15_marchFinds_117 (lv_at hl 0 rfl) ?_
                refine lv_if_ne (tgt := 126) hx hb dX15_marchFinds_119 (by decide) (fun c_35 => ?_) (fun c_35 => ?_)
                · exact absurd c_35 (by decide)
                · refine lv_iconst (v := 1) hx hb dX15_marchFinds_122 (by decide) ?_
                  refine lv_goto (tgt := 138) hx hb dX15_marchFinds_123 (by decide) ?_
                  have hPc : va_P D vwCl [((a 200), f_m a g)] _ := hP.sub (ws' := [((a 200), f_m a g)]) [0] rfl
                  have hDc : va_D (fun q => z0 ≤ q) [((a 200), f_m a g)] := (hD.to hAz).pick (ws' := [((a 200), f_m a g)]) [0] (by decide) rfl
                  have hFc := va_free (wc := [((a 200), f_m a g)]) hD hS hA [0] rfl
                  refine va_calli (va_runV (As := [.int 1]) (rest := []) ⟨hx, hb, hml, hown, ht⟩ (k_X15_isWrong l D g z0 _ a) (cwV 1 ht (gV w_376 w_378 w_379 w_334 w_377) rfl rfl rfl (by decide +kernel) (le2 rfl rfl)) ⟨PP.blind, va_recv hK.1 hP (ci := 21) (q0 := 0) rfl rfl, PP.mk' hK hZ hz hAz hS hPc hDc⟩ rfl rfl hl.1 rfl (lv_room (Nat.le_of_ble_eq_true rfl)) dX15_marchFinds_138 (le2 rfl rfl)) hS (fun q _ h => hFc q h) hFc (fun r u t H locs ht1 hvm hw hB hz1 hk1 hS => ?_)
                  obtain ⟨rfl, hw⟩ := hw
                  obtain ⟨hP1, hD1⟩ := hB
                  rw [ht1] at hP1
                  obtain ⟨hP, hD⟩ := va_join (wr := []) (w1 := [((a 200), .inr (21, [.int 1, .ref (a 201), .ref (a 202), .ref (a 203), .ref (a 204), .ref (a 205), .ref (a 206), .int 0, .int 0, .int 0, .int 0, .ref (a 208), .ref (a 209), .ref (a 210), .ref (a 211), .ref (a 212), .int 4, .int 12, .int (-1), .int 0, .ref (g 200), .ref (a 213), .int 0, .int 97, .ref (a 214), .ref (a 215), .ref (a 207), .null, .int 0]))]) hP hD [0] [] rfl rfl (by decide) (by decide) hk1 hFc hP1 hD1
                  have hP : va_P D vwCl [((a 200), .inr (21, [.int 1, .ref (a 201), .ref (a 202), .ref (a 203), .ref (a 204), .ref (a 205), .ref (a 206), .int 0, .int 0, .int 0, .int 0, .ref (a 208), .ref (a 209), .ref (a 210), .ref (a 211), .ref (a 212), .int 4, .int 12, .int (-1), .int 0, .ref (g 200), .ref (a 213), .int 0, .int 97, .ref (a 214), .ref (a 215), .ref (a 207), .null, .int 0]))] H := hP
                  have hD : va_D (va_A [((a 200), f_m a g)] s.heap.size) [((a 200), .inr (21, [.int 1, .ref (a 201), .ref (a 202), .ref (a 203), .ref (a 204), .ref (a 205), .ref (a 206), .int 0, .int 0, .int 0, .int 0, .ref (a 208), .ref (a 209), .ref (a 210), .ref (a 211), .ref (a 212), .int 4, .int 12, .int (-1), .int 0, .ref (g 200), .ref (a 213), .int 0, .int 97, .ref (a 214), .ref (a 215), .ref (a 207), .null, .int 0]))] := hD
                  refine lv_if_eq (tgt := 146) hx hb dX15_marchFinds_141 (by decide) (fun c_36 => ?_) (fun c_36 => ?_)
                  · exact absurd c_36 (by decide)
                  · refine lv_iconst (v := 0) hx hb dX15_marchFinds_144 (by decide) ?_
                    have hP9 := hP.sub (ws' := [((a 200), .inr (21, [.int 1, .ref (a 201), .ref (a 202), .ref (a 203), .ref (a 204), .ref (a 205), .ref (a 206), .int 0, .int 0, .int 0, .int 0, .ref (a 208), .ref (a 209), .ref (a 210), .ref (a 211), .ref (a 212), .int 4, .int 12, .int (-1), .int 0, .ref (g 200), .ref (a 213), .int 0, .int 97, .ref (a 214), .ref (a 215), .ref (a 207), .null, .int 0]))]) [0] rfl
                    have hD9 := hD.sub (ws' := [((a 200), .inr (21, [.int 1, .ref (a 201), .ref (a 202), .ref (a 203), .ref (a 204), .ref (a 205), .ref (a 206), .int 0, .int 0, .int 0, .int 0, .ref (a 208), .ref (a 209), .ref (a 210), .ref (a 211), .ref (a 212), .int 4, .int 12, .int (-1), .int 0, .ref (g 200), .ref (a 213), .int 0, .int 97, .ref (a 214), .ref (a 215), .ref (a 207), .null, .int 0]))]) [0] (by decide) rfl
                    refine W.widen (k := 0) (n := 0) (Nat.le_of_ble_eq_true rfl) (Nat.le_of_ble_eq_true rfl) ?_
                    exact W.zret (v := 0) hx hb hr rfl (fun t ht9 hW9 => ⟨⟨0, 1, rfl, (Or.inl ⟨rfl, rfl, (Or.inl ⟨c_25, c_26, c_27, c_28, c_29⟩)⟩), ⟨(by rw [ht9]; exact hP9), hD9⟩⟩, hS.F ht9⟩) hS.2.2 dX15_marchFinds_145 hlocks
              · exact absurd c_34 (by decide)
            · exact absurd c_33 c_29
      · exact absurd c_30 (by decide)
  · obtain ⟨rfl, hw⟩ := hw
    have c_37 := hw
    have hP := ro1 hP hk1
    refine lv_if_lt (tgt := 14) hx hb dX15_marchFinds_7 (by decide) (fun c_38 => ?_) (fun c_38 => ?_)
    · exact absurd c_38 (by decide)
    · refine lv_iconst (v := 1) hx hb dX15_marchFinds_10 (by decide) ?_
      refine lv_goto (tgt := 15) hx hb dX15_marchFinds_11 (by decide) ?_
      refine lv_istore (lv' := [(6, .int 1), (0, .ref (a 200)), (1, .int p0), (2, .int p1), (3, .int p2), (4, .int p3), (5, .int p4)]) hx hb dX15_marchFinds_15 hl (by decide) rfl (fun ls hl => ?_)
      refine lv_iload_n hx hb dX15_marchFinds_17 rfl (lv_at hl 2 rfl) ?_
      refine lv_bipush (v := 99) hx hb dX15_marchFinds_18 (by decide) ?_
      refine lv_icmp_eq (tgt := 35) hx hb dX15_marchFinds_20 (by decide) (fun c_39 => ?_) (fun c_39 => ?_)
      · exact absurd (c_37.symm.trans c_39) (by decide)
      · refine lv_iload_n hx hb dX15_marchFinds_23 rfl (lv_at hl 2 rfl) ?_
        refine lv_bipush (v := 105) hx hb dX15_marchFinds_24 (by decide) ?_
        refine lv_icmp_eq (tgt := 35) hx hb dX15_marchFinds_26 (by decide) (fun c_40 => ?_) (fun c_40 => ?_)
        · exact absurd (c_37.symm.trans c_40) (by decide)
        · refine lv_iload_n hx hb dX15_marchFinds_29 rfl (lv_at hl 2 rfl) ?_
          refine lv_bipush (v := 97) hx hb dX15_marchFinds_30 (by decide) ?_
          refine lv_icmp_ne (tgt := 39) hx hb dX15_marchFinds_32 (by decide) (fun c_41 => ?_) (fun c_41 => ?_)
          · exact absurd c_37 c_41
          · refine lv_iconst (v := 1) hx hb dX15_marchFinds_35 (by decide) ?_
            refine lv_goto (tgt := 40) hx hb dX15_marchFinds_36 (by decide) ?_
            refine lv_istore (lv' := [(7, .int 1), (6, .int 1), (0, .ref (a 200)), (1, .int p0), (2, .int p1), (3, .int p2), (4, .int p3), (5, .int p4)]) hx hb dX15_marchFinds_40 hl (by decide) rfl (fun ls hl => ?_)
            refine lv_iload hx hb dX15_marchFinds_42 (lv_at hl 1 rfl) ?_
            refine lv_if_eq (tgt := 113) hx hb dX15_marchFinds_44 (by decide) (fun c_42 => ?_) (fun c_42 => ?_)
            · exact absurd c_42 (by decide)
            · refine lv_iload_n hx hb dX15_marchFinds_47 rfl (lv_at hl 4 rfl) ?_
              refine lv_iconst (v := 0) hx hb dX15_marchFinds_48 (by decide) ?_
              refine lv_bipush (v := 7) hx hb dX15_marchFinds_49 (by decide) ?_
              have hPc : va_P D vwCl [] _ := hP.sub (ws' := []) [] rfl
              have hDc : va_D (fun q => z0 ≤ q) [] := (hD.to hAz).pick (ws' := []) [] (by decide) rfl
              have hFc := AnA (ws := [((a 200), f_m a g)]) hS.1
              refine va_calli (va_runS (As := [.int p1, .int 0, .int 7]) (rest := []) ⟨hx, hb, hml, hown, ht⟩ (k_X15_isBetween_v9 l D g z0 _ a p1) (va_cwS 3 ht (gS w_369 w_371 w_334 w_370) rfl rfl rfl (by decide +kernel) (le2 rfl rfl)) ⟨PP.blind, PP.mk' hK hZ hz hAz hS hPc hDc⟩ rfl rfl hl.1 rfl (lv_room (Nat.le_of_ble_eq_true rfl)) dX15_marchFinds_51 (le2 rfl rfl)) hS (fun q _ h => hFc q h) hFc (fun r u t H locs ht1 hvm hw hB hz1 hk1 hS => ?_)
              rcases hw with hw | hw
              · obtain ⟨rfl, hw⟩ := hw
                rcases hw with hw | hw
                · have c_43 := hw
                  have hP := ro1 hP hk1
                  refine lv_if_eq (tgt := 113) hx hb dX15_marchFinds_54 (by decide) (fun c_44 => ?_) (fun c_44 => ?_)
                  · refine lv_iconst (v := 0) hx hb dX15_marchFinds_113 (by decide) ?_
                    refine lv_istore (lv' := [(8, .int 0), (7, .int 1), (6, .int 1), (0, .ref (a 200)), (1, .int p0), (2, .int p1), (3, .int p2), (4, .int p3), (5, .int p4)]) hx hb dX15_marchFinds_114 hl (by decide) rfl (fun ls hl => ?_)
                    refine lv_aload_n hx hb dX15_marchFinds_116 rfl (lv_at hl 3 rfl) ?_
                    refine lv_iload hx hb dX15_marchFinds_117 (lv_at hl 0 rfl) ?_
                    refine lv_if_ne (tgt := 126) hx hb dX15_marchFinds_119 (by decide) (fun c_45 => ?_) (fun c_45 => ?_)
                    · exact absurd c_45 (by decide)
                    · refine lv_iconst (v := 1) hx hb dX15_marchFinds_122 (by decide) ?_
                      refine lv_goto (tgt := 138) hx hb dX15_marchFinds_123 (by decide) ?_
                      have hPc : va_P D vwCl [((a 200), f_m a g)] _ := hP.sub (ws' := [((a 200), f_m a g)]) [0] rfl
                      have hDc : va_D (fun q => z0 ≤ q) [((a 200), f_m a g)] := (hD.to hAz).pick (ws' := [((a 200), f_m a g)]) [0] (by decide) rfl
                      have hFc := va_free (wc := [((a 200), f_m a g)]) hD hS hA [0] rfl
                      refine va_calli (va_runV (As := [.int 1]) (rest := []) ⟨hx, hb, hml, hown, ht⟩ (k_X15_isWrong l D g z0 _ a) (cwV 1 ht (gV w_376 w_378 w_379 w_334 w_377) rfl rfl rfl (by decide +kernel) (le2 rfl rfl)) ⟨PP.blind, va_recv hK.1 hP (ci := 21) (q0 := 0) rfl rfl, PP.mk' hK hZ hz hAz hS hPc hDc⟩ rfl rfl hl.1 rfl (lv_room (Nat.le_of_ble_eq_true rfl)) dX15_marchFinds_138 (le2 rfl rfl)) hS (fun q _ h => hFc q h) hFc (fun r u t H locs ht1 hvm hw hB hz1 hk1 hS => ?_)
                      obtain ⟨rfl, hw⟩ := hw
                      obtain ⟨hP1, hD1⟩ := hB
                      rw [ht1] at hP1
                      obtain ⟨hP, hD⟩ := va_join (wr := []) (w1 := [((a 200), .inr (21, [.int 1, .ref (a 201), .ref (a 202), .ref (a 203), .ref (a 204), .ref (a 205), .ref (a 206), .int 0, .int 0, .int 0, .int 0, .ref (a 208), .ref (a 209), .ref (a 210), .ref (a 211), .ref (a 212), .int 4, .int 12, .int (-1), .int 0, .ref (g 200), .ref (a 213), .int 0, .int 97, .ref (a 214), .ref (a 215), .ref (a 207), .null, .int 0]))]) hP hD [0] [] rfl rfl (by decide) (by decide) hk1 hFc hP1 hD1
                      have hP : va_P D vwCl [((a 200), .inr (21, [.int 1, .ref (a 201), .ref (a 202), .ref (a 203), .ref (a 204), .ref (a 205), .ref (a 206), .int 0, .int 0, .int 0, .int 0, .ref (a 208), .ref (a 209), .ref (a 210), .ref (a 211), .ref (a 212), .int 4, .int 12, .int (-1), .int 0, .ref (g 200), .ref (a 213), .int 0, .int 97, .ref (a 214), .ref (a 215), .ref (a 207), .null, .int 0]))] H := hP
                      have hD : va_D (va_A [((a 200), f_m a g)] s.heap.size) [((a 200), .inr (21, [.int 1, .ref (a 201), .ref (a 202), .ref (a 203), .ref (a 204), .ref (a 205), .ref (a 206), .int 0, .int 0, .int 0, .int 0, .ref (a 208), .ref (a 209), .ref (a 210), .ref (a 211), .ref (a 212), .int 4, .int 12, .int (-1), .int 0, .ref (g 200), .ref (a 213), .int 0, .int 97, .ref (a 214), .ref (a 215), .ref (a 207), .null, .int 0]))] := hD
                      refine lv_if_eq (tgt := 146) hx hb dX15_marchFinds_141 (by decide) (fun c_46 => ?_) (fun c_46 => ?_)
                      · exact absurd c_46 (by decide)
                      · refine lv_iconst (v := 0) hx hb dX15_marchFinds_144 (by decide) ?_
                        have hP9 := hP.sub (ws' := [((a 200), .inr (21, [.int 1, .ref (a 201), .ref (a 202), .ref (a 203), .ref (a 204), .ref (a 205), .ref (a 206), .int 0, .int 0, .int 0, .int 0, .ref (a 208), .ref (a 209), .ref (a 210), .ref (a 211), .ref (a 212), .int 4, .int 12, .int (-1), .int 0, .ref (g 200), .ref (a 213), .int 0, .int 97, .ref (a 214), .ref (a 215), .ref (a 207), .null, .int 0]))]) [0] rfl
                        have hD9 := hD.sub (ws' := [((a 200), .inr (21, [.int 1, .ref (a 201), .ref (a 202), .ref (a 203), .ref (a 204), .ref (a 205), .ref (a 206), .int 0, .int 0, .int 0, .int 0, .ref (a 208), .ref (a 209), .ref (a 210), .ref (a 211), .ref (a 212), .int 4, .int 12, .int (-1), .int 0, .ref (g 200), .ref (a 213), .int 0, .int 97, .ref (a 214), .ref (a 215), .ref (a 207), .null, .int 0]))]) [0] (by decide) rfl
                        refine W.widen (k := 0) (n := 0) (Nat.le_of_ble_eq_true rfl) (Nat.le_of_ble_eq_true rfl) ?_
                        exact W.zret (v := 0) hx hb hr rfl (fun t ht9 hW9 => ⟨⟨0, 1, rfl, (Or.inl ⟨rfl, rfl, (Or.inr (Or.inr (Or.inr (Or.inl ⟨c_37, c_39, c_40, c_43⟩))))⟩), ⟨(by rw [ht9]; exact hP9), hD9⟩⟩, hS.F ht9⟩) hS.2.2 dX15_marchFinds_145 hlocks
                  · exact absurd c_44 (by decide)
                · obtain ⟨c_47, c_48⟩ := hw
                  have hP := ro1 hP hk1
                  refine lv_if_eq (tgt := 113) hx hb dX15_marchFinds_54 (by decide) (fun c_49 => ?_) (fun c_49 => ?_)
                  · refine lv_iconst (v := 0) hx hb dX15_marchFinds_113 (by decide) ?_
                    refine lv_istore (lv' := [(8, .int 0), (7, .int 1), (6, .int 1), (0, .ref (a 200)), (1, .int p0), (2, .int p1), (3, .int p2), (4, .int p3), (5, .int p4)]) hx hb dX15_marchFinds_114 hl (by decide) rfl (fun ls hl => ?_)
                    refine lv_aload_n hx hb dX15_marchFinds_116 rfl (lv_at hl 3 rfl) ?_
                    refine lv_iload hx hb dX15_marchFinds_117 (lv_at hl 0 rfl) ?_
                    refine lv_if_ne (tgt := 126) hx hb dX15_marchFinds_119 (by decide) (fun c_50 => ?_) (fun c_50 => ?_)
                    · exact absurd c_50 (by decide)
                    · refine lv_iconst (v := 1) hx hb dX15_marchFinds_122 (by decide) ?_
                      refine lv_goto (tgt := 138) hx hb dX15_marchFinds_123 (by decide) ?_
                      have hPc : va_P D vwCl [((a 200), f_m a g)] _ := hP.sub (ws' := [((a 200), f_m a g)]) [0] rfl
                      have hDc : va_D (fun q => z0 ≤ q) [((a 200), f_m a g)] := (hD.to hAz).pick (ws' := [((a 200), f_m a g)]) [0] (by decide) rfl
                      have hFc := va_free (wc := [((a 200), f_m a g)]) hD hS hA [0] rfl
                      refine va_calli (va_runV (As := [.int 1]) (rest := []) ⟨hx, hb, hml, hown, ht⟩ (k_X15_isWrong l D g z0 _ a) (cwV 1 ht (gV w_376 w_378 w_379 w_334 w_377) rfl rfl rfl (by decide +kernel) (le2 rfl rfl)) ⟨PP.blind, va_recv hK.1 hP (ci := 21) (q0 := 0) rfl rfl, PP.mk' hK hZ hz hAz hS hPc hDc⟩ rfl rfl hl.1 rfl (lv_room (Nat.le_of_ble_eq_true rfl)) dX15_marchFinds_138 (le2 rfl rfl)) hS (fun q _ h => hFc q h) hFc (fun r u t H locs ht1 hvm hw hB hz1 hk1 hS => ?_)
                      obtain ⟨rfl, hw⟩ := hw
                      obtain ⟨hP1, hD1⟩ := hB
                      rw [ht1] at hP1
                      obtain ⟨hP, hD⟩ := va_join (wr := []) (w1 := [((a 200), .inr (21, [.int 1, .ref (a 201), .ref (a 202), .ref (a 203), .ref (a 204), .ref (a 205), .ref (a 206), .int 0, .int 0, .int 0, .int 0, .ref (a 208), .ref (a 209), .ref (a 210), .ref (a 211), .ref (a 212), .int 4, .int 12, .int (-1), .int 0, .ref (g 200), .ref (a 213), .int 0, .int 97, .ref (a 214), .ref (a 215), .ref (a 207), .null, .int 0]))]) hP hD [0] [] rfl rfl (by decide) (by decide) hk1 hFc hP1 hD1
                      have hP : va_P D vwCl [((a 200), .inr (21, [.int 1, .ref (a 201), .ref (a 202), .ref (a 203), .ref (a 204), .ref (a 205), .ref (a 206), .int 0, .int 0, .int 0, .int 0, .ref (a 208), .ref (a 209), .ref (a 210), .ref (a 211), .ref (a 212), .int 4, .int 12, .int (-1), .int 0, .ref (g 200), .ref (a 213), .int 0, .int 97, .ref (a 214), .ref (a 215), .ref (a 207), .null, .int 0]))] H := hP
                      have hD : va_D (va_A [((a 200), f_m a g)] s.heap.size) [((a 200), .inr (21, [.int 1, .ref (a 201), .ref (a 202), .ref (a 203), .ref (a 204), .ref (a 205), .ref (a 206), .int 0, .int 0, .int 0, .int 0, .ref (a 208), .ref (a 209), .ref (a 210), .ref (a 211), .ref (a 212), .int 4, .int 12, .int (-1), .int 0, .ref (g 200), .ref (a 213), .int 0, .int 97, .ref (a 214), .ref (a 215), .ref (a 207), .null, .int 0]))] := hD
                      refine lv_if_eq (tgt := 146) hx hb dX15_marchFinds_141 (by decide) (fun c_51 => ?_) (fun c_51 => ?_)
                      · exact absurd c_51 (by decide)
                      · refine lv_iconst (v := 0) hx hb dX15_marchFinds_144 (by decide) ?_
                        have hP9 := hP.sub (ws' := [((a 200), .inr (21, [.int 1, .ref (a 201), .ref (a 202), .ref (a 203), .ref (a 204), .ref (a 205), .ref (a 206), .int 0, .int 0, .int 0, .int 0, .ref (a 208), .ref (a 209), .ref (a 210), .ref (a 211), .ref (a 212), .int 4, .int 12, .int (-1), .int 0, .ref (g 200), .ref (a 213), .int 0, .int 97, .ref (a 214), .ref (a 215), .ref (a 207), .null, .int 0]))]) [0] rfl
                        have hD9 := hD.sub (ws' := [((a 200), .inr (21, [.int 1, .ref (a 201), .ref (a 202), .ref (a 203), .ref (a 204), .ref (a 205), .ref (a 206), .int 0, .int 0, .int 0, .int 0, .ref (a 208), .ref (a 209), .ref (a 210), .ref (a 211), .ref (a 212), .int 4, .int 12, .int (-1), .int 0, .ref (g 200), .ref (a 213), .int 0, .int 97, .ref (a 214), .ref (a 215), .ref (a 207), .null, .int 0]))]) [0] (by decide) rfl
                        refine W.widen (k := 0) (n := 0) (Nat.le_of_ble_eq_true rfl) (Nat.le_of_ble_eq_true rfl) ?_
                        exact W.zret (v := 0) hx hb hr rfl (fun t ht9 hW9 => ⟨⟨0, 1, rfl, (Or.inl ⟨rfl, rfl, (Or.inr (Or.inr (Or.inr (Or.inr (Or.inl ⟨c_37, c_39, c_40, c_47, c_48⟩)))))⟩), ⟨(by rw [ht9]; exact hP9), hD9⟩⟩, hS.F ht9⟩) hS.2.2 dX15_marchFinds_145 hlocks
                  · exact absurd c_49 (by decide)
              · obtain ⟨rfl, hw⟩ := hw
                obtain ⟨c_52, c_53⟩ := hw
                have hP := ro1 hP hk1
                refine lv_if_eq (tgt := 113) hx hb dX15_marchFinds_54 (by decide) (fun c_54 => ?_) (fun c_54 => ?_)
                · exact absurd c_54 (by decide)
                · refine lv_iload hx hb dX15_marchFinds_57 (lv_at hl 0 rfl) ?_
                  refine lv_if_eq (tgt := 77) hx hb dX15_marchFinds_59 (by decide) (fun c_55 => ?_) (fun c_55 => ?_)
                  · exact absurd c_55 (by decide)
                  · refine lv_iload_n hx hb dX15_marchFinds_62 rfl (lv_at hl 5 rfl) ?_
                    refine lv_iconst (v := 0) hx hb dX15_marchFinds_63 (by decide) ?_
                    refine lv_bipush (v := 7) hx hb dX15_marchFinds_64 (by decide) ?_
                    have hPc : va_P D vwCl [] _ := hP.sub (ws' := []) [] rfl
                    have hDc : va_D (fun q => z0 ≤ q) [] := (hD.to hAz).pick (ws' := []) [] (by decide) rfl
                    have hFc := AnA (ws := [((a 200), f_m a g)]) hS.1
                    refine va_calli (va_runS (As := [.int p2, .int 0, .int 7]) (rest := []) ⟨hx, hb, hml, hown, ht⟩ (k_X15_isBetween_v9 l D g z0 _ a p2) (va_cwS 3 ht (gS w_369 w_371 w_334 w_370) rfl rfl rfl (by decide +kernel) (le2 rfl rfl)) ⟨PP.blind, PP.mk' hK hZ hz hAz hS hPc hDc⟩ rfl rfl hl.1 rfl (lv_room (Nat.le_of_ble_eq_true rfl)) dX15_marchFinds_66 (le2 rfl rfl)) hS (fun q _ h => hFc q h) hFc (fun r u t H locs ht1 hvm hw hB hz1 hk1 hS => ?_)
                    rcases hw with hw | hw
                    · obtain ⟨rfl, hw⟩ := hw
                      rcases hw with hw | hw
                      · have c_56 := hw
                        have hP := ro1 hP hk1
                        refine lv_if_eq (tgt := 113) hx hb dX15_marchFinds_69 (by decide) (fun c_57 => ?_) (fun c_57 => ?_)
                        · refine lv_iconst (v := 0) hx hb dX15_marchFinds_113 (by decide) ?_
                          refine lv_istore (lv' := [(8, .int 0), (7, .int 1), (6, .int 1), (0, .ref (a 200)), (1, .int p0), (2, .int p1), (3, .int p2), (4, .int p3), (5, .int p4)]) hx hb dX15_marchFinds_114 hl (by decide) rfl (fun ls hl => ?_)
                          refine lv_aload_n hx hb dX15_marchFinds_116 rfl (lv_at hl 3 rfl) ?_
                          refine lv_iload hx hb dX15_marchFinds_117 (lv_at hl 0 rfl) ?_
                          refine lv_if_ne (tgt := 126) hx hb dX15_marchFinds_119 (by decide) (fun c_58 => ?_) (fun c_58 => ?_)
                          · exact absurd c_58 (by decide)
                          · refine lv_iconst (v := 1) hx hb dX15_marchFinds_122 (by decide) ?_
                            refine lv_goto (tgt := 138) hx hb dX15_marchFinds_123 (by decide) ?_
                            have hPc : va_P D vwCl [((a 200), f_m a g)] _ := hP.sub (ws' := [((a 200), f_m a g)]) [0] rfl
                            have hDc : va_D (fun q => z0 ≤ q) [((a 200), f_m a g)] := (hD.to hAz).pick (ws' := [((a 200), f_m a g)]) [0] (by decide) rfl
                            have hFc := va_free (wc := [((a 200), f_m a g)]) hD hS hA [0] rfl
                            refine va_calli (va_runV (As := [.int 1]) (rest := []) ⟨hx, hb, hml, hown, ht⟩ (k_X15_isWrong l D g z0 _ a) (cwV 1 ht (gV w_376 w_378 w_379 w_334 w_377) rfl rfl rfl (by decide +kernel) (le2 rfl rfl)) ⟨PP.blind, va_recv hK.1 hP (ci := 21) (q0 := 0) rfl rfl, PP.mk' hK hZ hz hAz hS hPc hDc⟩ rfl rfl hl.1 rfl (lv_room (Nat.le_of_ble_eq_true rfl)) dX15_marchFinds_138 (le2 rfl rfl)) hS (fun q _ h => hFc q h) hFc (fun r u t H locs ht1 hvm hw hB hz1 hk1 hS => ?_)
                            obtain ⟨rfl, hw⟩ := hw
                            obtain ⟨hP1, hD1⟩ := hB
                            rw [ht1] at hP1
                            obtain ⟨hP, hD⟩ := va_join (wr := []) (w1 := [((a 200), .inr (21, [.int 1, .ref (a 201), .ref (a 202), .ref (a 203), .ref (a 204), .ref (a 205), .ref (a 206), .int 0, .int 0, .int 0, .int 0, .ref (a 208), .ref (a 209), .ref (a 210), .ref (a 211), .ref (a 212), .int 4, .int 12, .int (-1), .int 0, .ref (g 200), .ref (a 213), .int 0, .int 97, .ref (a 214), .ref (a 215), .ref (a 207), .null, .int 0]))]) hP hD [0] [] rfl rfl (by decide) (by decide) hk1 hFc hP1 hD1
                            have hP : va_P D vwCl [((a 200), .inr (21, [.int 1, .ref (a 201), .ref (a 202), .ref (a 203), .ref (a 204), .ref (a 205), .ref (a 206), .int 0, .int 0, .int 0, .int 0, .ref (a 208), .ref (a 209), .ref (a 210), .ref (a 211), .ref (a 212), .int 4, .int 12, .int (-1), .int 0, .ref (g 200), .ref (a 213), .int 0, .int 97, .ref (a 214), .ref (a 215), .ref (a 207), .null, .int 0]))] H := hP
                            have hD : va_D (va_A [((a 200), f_m a g)] s.heap.size) [((a 200), .inr (21, [.int 1, .ref (a 201), .ref (a 202), .ref (a 203), .ref (a 204), .ref (a 205), .ref (a 206), .int 0, .int 0, .int 0, .int 0, .ref (a 208), .ref (a 209), .ref (a 210), .ref (a 211), .ref (a 212), .int 4, .int 12, .int (-1), .int 0, .ref (g 200), .ref (a 213), .int 0, .int 97, .ref (a 214), .ref (a 215), .ref (a 207), .null, .int 0]))] := hD
                            refine lv_if_eq (tgt := 146) hx hb dX15_marchFinds_141 (by decide) (fun c_59 => ?_) (fun c_59 => ?_)
                            · exact absurd c_59 (by decide)
                            · refine lv_iconst (v := 0) hx hb dX15_marchFinds_144 (by decide) ?_
                              have hP9 := hP.sub (ws' := [((a 200), .inr (21, [.int 1, .ref (a 201), .ref (a 202), .ref (a 203), .ref (a 204), .ref (a 205), .ref (a 206), .int 0, .int 0, .int 0, .int 0, .ref (a 208), .ref (a 209), .ref (a 210), .ref (a 211), .ref (a 212), .int 4, .int 12, .int (-1), .int 0, .ref (g 200), .ref (a 213), .int 0, .int 97, .ref (a 214), .ref (a 215), .ref (a 207), .null, .int 0]))]) [0] rfl
                              have hD9 := hD.sub (ws' := [((a 200), .inr (21, [.int 1, .ref (a 201), .ref (a 202), .ref (a 203), .ref (a 204), .ref (a 205), .ref (a 206), .int 0, .int 0, .int 0, .int 0, .ref (a 208), .ref (a 209), .ref (a 210), .ref (a 211), .ref (a 212), .int 4, .int 12, .int (-1), .int 0, .ref (g 200), .ref (a 213), .int 0, .int 97, .ref (a 214), .ref (a 215), .ref (a 207), .null, .int 0]))]) [0] (by decide) rfl
                              refine W.widen (k := 0) (n := 0) (Nat.le_of_ble_eq_true rfl) (Nat.le_of_ble_eq_true rfl) ?_
                              exact W.zret (v := 0) hx hb hr rfl (fun t ht9 hW9 => ⟨⟨0, 1, rfl, (Or.inl ⟨rfl, rfl, (Or.inr (Or.inr (Or.inr (Or.inr (Or.inr (Or.inl ⟨c_37, c_39, c_40, c_52, c_53, c_56⟩))))))⟩), ⟨(by rw [ht9]; exact hP9), hD9⟩⟩, hS.F ht9⟩) hS.2.2 dX15_marchFinds_145 hlocks
                        · exact absurd c_57 (by decide)
                      · obtain ⟨c_60, c_61⟩ := hw
                        have hP := ro1 hP hk1
                        refine lv_if_eq (tgt := 113) hx hb dX15_marchFinds_69 (by decide) (fun c_62 => ?_) (fun c_62 => ?_)
                        · refine lv_iconst (v := 0) hx hb dX15_marchFinds_113 (by decide) ?_
                          refine lv_istore (lv' := [(8, .int 0), (7, .int 1), (6, .int 1), (0, .ref (a 200)), (1, .int p0), (2, .int p1), (3, .int p2), (4, .int p3), (5, .int p4)]) hx hb dX15_marchFinds_114 hl (by decide) rfl (fun ls hl => ?_)
                          refine lv_aload_n hx hb dX15_marchFinds_116 rfl (lv_at hl 3 rfl) ?_
                          refine lv_iload hx hb dX15_marchFinds_117 (lv_at hl 0 rfl) ?_
                          refine lv_if_ne (tgt := 126) hx hb dX15_marchFinds_119 (by decide) (fun c_63 => ?_) (fun c_63 => ?_)
                          · exact absurd c_63 (by decide)
                          · refine lv_iconst (v := 1) hx hb dX15_marchFinds_122 (by decide) ?_
                            refine lv_goto (tgt := 138) hx hb dX15_marchFinds_123 (by decide) ?_
                            have hPc : va_P D vwCl [((a 200), f_m a g)] _ := hP.sub (ws' := [((a 200), f_m a g)]) [0] rfl
                            have hDc : va_D (fun q => z0 ≤ q) [((a 200), f_m a g)] := (hD.to hAz).pick (ws' := [((a 200), f_m a g)]) [0] (by decide) rfl
                            have hFc := va_free (wc := [((a 200), f_m a g)]) hD hS hA [0] rfl
                            refine va_calli (va_runV (As := [.int 1]) (rest := []) ⟨hx, hb, hml, hown, ht⟩ (k_X15_isWrong l D g z0 _ a) (cwV 1 ht (gV w_376 w_378 w_379 w_334 w_377) rfl rfl rfl (by decide +kernel) (le2 rfl rfl)) ⟨PP.blind, va_recv hK.1 hP (ci := 21) (q0 := 0) rfl rfl, PP.mk' hK hZ hz hAz hS hPc hDc⟩ rfl rfl hl.1 rfl (lv_room (Nat.le_of_ble_eq_true rfl)) dX15_marchFinds_138 (le2 rfl rfl)) hS (fun q _ h => hFc q h) hFc (fun r u t H locs ht1 hvm hw hB hz1 hk1 hS => ?_)
                            obtain ⟨rfl, hw⟩ := hw
                            obtain ⟨hP1, hD1⟩ := hB
                            rw [ht1] at hP1
                            obtain ⟨hP, hD⟩ := va_join (wr := []) (w1 := [((a 200), .inr (21, [.int 1, .ref (a 201), .ref (a 202), .ref (a 203), .ref (a 204), .ref (a 205), .ref (a 206), .int 0, .int 0, .int 0, .int 0, .ref (a 208), .ref (a 209), .ref (a 210), .ref (a 211), .ref (a 212), .int 4, .int 12, .int (-1), .int 0, .ref (g 200), .ref (a 213), .int 0, .int 97, .ref (a 214), .ref (a 215), .ref (a 207), .null, .int 0]))]) hP hD [0] [] rfl rfl (by decide) (by decide) hk1 hFc hP1 hD1
                            have hP : va_P D vwCl [((a 200), .inr (21, [.int 1, .ref (a 201), .ref (a 202), .ref (a 203), .ref (a 204), .ref (a 205), .ref (a 206), .int 0, .int 0, .int 0, .int 0, .ref (a 208), .ref (a 209), .ref (a 210), .ref (a 211), .ref (a 212), .int 4, .int 12, .int (-1), .int 0, .ref (g 200), .ref (a 213), .int 0, .int 97, .ref (a 214), .ref (a 215), .ref (a 207), .null, .int 0]))] H := hP
                            have hD : va_D (va_A [((a 200), f_m a g)] s.heap.size) [((a 200), .inr (21, [.int 1, .ref (a 201), .ref (a 202), .ref (a 203), .ref (a 204), .ref (a 205), .ref (a 206), .int 0, .int 0, .int 0, .int 0, .ref (a 208), .ref (a 209), .ref (a 210), .ref (a 211), .ref (a 212), .int 4, .int 12, .int (-1), .int 0, .ref (g 200), .ref (a 213), .int 0, .int 97, .ref (a 214), .ref (a 215), .ref (a 207), .null, .int 0]))] := hD
                            refine lv_if_eq (tgt := 146) hx hb dX15_marchFinds_141 (by decide) (fun c_64 => ?_) (fun c_64 => ?_)
                            · exact absurd c_64 (by decide)
                            · refine lv_iconst (v := 0) hx hb dX15_marchFinds_144 (by decide) ?_
                              have hP9 := hP.sub (ws' := [((a 200), .inr (21, [.int 1, .ref (a 201), .ref (a 202), .ref (a 203), .ref (a 204), .ref (a 205), .ref (a 206), .int 0, .int 0, .int 0, .int 0, .ref (a 208), .ref (a 209), .ref (a 210), .ref (a 211), .ref (a 212), .int 4, .int 12, .int (-1), .int 0, .ref (g 200), .ref (a 213), .int 0, .int 97, .ref (a 214), .ref (a 215), .ref (a 207), .null, .int 0]))]) [0] rfl
                              have hD9 := hD.sub (ws' := [((a 200), .inr (21, [.int 1, .ref (a 201), .ref (a 202), .ref (a 203), .ref (a 204), .ref (a 205), .ref (a 206), .int 0, .int 0, .int 0, .int 0, .ref (a 208), .ref (a 209), .ref (a 210), .ref (a 211), .ref (a 212), .int 4, .int 12, .int (-1), .int 0, .ref (g 200), .ref (a 213), .int 0, .int 97, .ref (a 214), .ref (a 215), .ref (a 207), .null, .int 0]))]) [0] (by decide) rfl
                              refine W.widen (k := 0) (n := 0) (Nat.le_of_ble_eq_true rfl) (Nat.le_of_ble_eq_true rfl) ?_
                              exact W.zret (v := 0) hx hb hr rfl (fun t ht9 hW9 => ⟨⟨0, 1, rfl, (Or.inl ⟨rfl, rfl, (Or.inr (Or.inr (Or.inr (Or.inr (Or.inr (Or.inr (Or.inl ⟨c_37, c_39, c_40, c_52, c_53, c_60, c_61⟩)))))))⟩), ⟨(by rw [ht9]; exact hP9), hD9⟩⟩, hS.F ht9⟩) hS.2.2 dX15_marchFinds_145 hlocks
                        · exact absurd c_62 (by decide)
                    · obtain ⟨rfl, hw⟩ := hw
                      obtain ⟨c_65, c_66⟩ := hw
                      have hP := ro1 hP hk1
                      refine lv_if_eq (tgt := 113) hx hb dX15_marchFinds_69 (by decide) (fun c_67 => ?_) (fun c_67 => ?_)
                      · exact absurd c_67 (by decide)
                      · refine lv_iload_n hx hb dX15_marchFinds_72 rfl (lv_at hl 4 rfl) ?_
                        refine lv_iload_n hx hb dX15_marchFinds_73 rfl (lv_at hl 5 rfl) ?_
                        refine lv_icmp_eq (tgt := 113) hx hb dX15_marchFinds_74 (by decide) (fun c_68 => ?_) (fun c_68 => ?_)
                        · refine lv_iconst (v := 0) hx hb dX15_marchFinds_113 (by decide) ?_
                          refine lv_istore (lv' := [(8, .int 0), (7, .int 1), (6, .int 1), (0, .ref (a 200)), (1, .int p0), (2, .int p1), (3, .int p2), (4, .int p3), (5, .int p4)]) hx hb dX15_marchFinds_114 hl (by decide) rfl (fun ls hl => ?_)
                          refine lv_aload_n hx hb dX15_marchFinds_116 rfl (lv_at hl 3 rfl) ?_
                          refine lv_iload hx hb dX15_marchFinds_117 (lv_at hl 0 rfl) ?_
                          refine lv_if_ne (tgt := 126) hx hb dX15_marchFinds_119 (by decide) (fun c_69 => ?_) (fun c_69 => ?_)
                          · exact absurd c_69 (by decide)
                          · refine lv_iconst (v := 1) hx hb dX15_marchFinds_122 (by decide) ?_
                            refine lv_goto (tgt := 138) hx hb dX15_marchFinds_123 (by decide) ?_
                            have hPc : va_P D vwCl [((a 200), f_m a g)] _ := hP.sub (ws' := [((a 200), f_m a g)]) [0] rfl
                            have hDc : va_D (fun q => z0 ≤ q) [((a 200), f_m a g)] := (hD.to hAz).pick (ws' := [((a 200), f_m a g)]) [0] (by decide) rfl
                            have hFc := va_free (wc := [((a 200), f_m a g)]) hD hS hA [0] rfl
                            refine va_calli (va_runV (As := [.int 1]) (rest := []) ⟨hx, hb, hml, hown, ht⟩ (k_X15_isWrong l D g z0 _ a) (cwV 1 ht (gV w_376 w_378 w_379 w_334 w_377) rfl rfl rfl (by decide +kernel) (le2 rfl rfl)) ⟨PP.blind, va_recv hK.1 hP (ci := 21) (q0 := 0) rfl rfl, PP.mk' hK hZ hz hAz hS hPc hDc⟩ rfl rfl hl.1 rfl (lv_room (Nat.le_of_ble_eq_true rfl)) dX15_marchFinds_138 (le2 rfl rfl)) hS (fun q _ h => hFc q h) hFc (fun r u t H locs ht1 hvm hw hB hz1 hk1 hS => ?_)
                            obtain ⟨rfl, hw⟩ := hw
                            obtain ⟨hP1, hD1⟩ := hB
                            rw [ht1] at hP1
                            obtain ⟨hP, hD⟩ := va_join (wr := []) (w1 := [((a 200), .inr (21, [.int 1, .ref (a 201), .ref (a 202), .ref (a 203), .ref (a 204), .ref (a 205), .ref (a 206), .int 0, .int 0, .int 0, .int 0, .ref (a 208), .ref (a 209), .ref (a 210), .ref (a 211), .ref (a 212), .int 4, .int 12, .int (-1), .int 0, .ref (g 200), .ref (a 213), .int 0, .int 97, .ref (a 214), .ref (a 215), .ref (a 207), .null, .int 0]))]) hP hD [0] [] rfl rfl (by decide) (by decide) hk1 hFc hP1 hD1
                            have hP : va_P D vwCl [((a 200), .inr (21, [.int 1, .ref (a 201), .ref (a 202), .ref (a 203), .ref (a 204), .ref (a 205), .ref (a 206), .int 0, .int 0, .int 0, .int 0, .ref (a 208), .ref (a 209), .ref (a 210), .ref (a 211), .ref (a 212), .int 4, .int 12, .int (-1), .int 0, .ref (g 200), .ref (a 213), .int 0, .int 97, .ref (a 214), .ref (a 215), .ref (a 207), .null, .int 0]))] H := hP
                            have hD : va_D (va_A [((a 200), f_m a g)] s.heap.size) [((a 200), .inr (21, [.int 1, .ref (a 201), .ref (a 202), .ref (a 203), .ref (a 204), .ref (a 205), .ref (a 206), .int 0, .int 0, .int 0, .int 0, .ref (a 208), .ref (a 209), .ref (a 210), .ref (a 211), .ref (a 212), .int 4, .int 12, .int (-1), .int 0, .ref (g 200), .ref (a 213), .int 0, .int 97, .ref (a 214), .ref (a 215), .ref (a 207), .null, .int 0]))] := hD
                            refine lv_if_eq (tgt := 146) hx hb dX15_marchFinds_141 (by decide) (fun c_70 => ?_) (fun c_70 => ?_)
                            · exact absurd c_70 (by decide)
                            · refine lv_iconst (v := 0) hx hb dX15_marchFinds_144 (by decide) ?_
                              have hP9 := hP.sub (ws' := [((a 200), .inr (21, [.int 1, .ref (a 201), .ref (a 202), .ref (a 203), .ref (a 204), .ref (a 205), .ref (a 206), .int 0, .int 0, .int 0, .int 0, .ref (a 208), .ref (a 209), .ref (a 210), .ref (a 211), .ref (a 212), .int 4, .int 12, .int (-1), .int 0, .ref (g 200), .ref (a 213), .int 0, .int 97, .ref (a 214), .ref (a 215), .ref (a 207), .null, .int 0]))]) [0] rfl
                              have hD9 := hD.sub (ws' := [((a 200), .inr (21, [.int 1, .ref (a 201), .ref (a 202), .ref (a 203), .ref (a 204), .ref (a 205), .ref (a 206), .int 0, .int 0, .int 0, .int 0, .ref (a 208), .ref (a 209), .ref (a 210), .ref (a 211), .ref (a 212), .int 4, .int 12, .int (-1), .int 0, .ref (g 200), .ref (a 213), .int 0, .int 97, .ref (a 214), .ref (a 215), .ref (a 207), .null, .int 0]))]) [0] (by decide) rfl
                              refine W.widen (k := 0) (n := 0) (Nat.le_of_ble_eq_true rfl) (Nat.le_of_ble_eq_true rfl) ?_
                              exact W.zret (v := 0) hx hb hr rfl (fun t ht9 hW9 => ⟨⟨0, 1, rfl, (Or.inl ⟨rfl, rfl, (Or.inr (Or.inr (Or.inr (Or.inr (Or.inr (Or.inr (Or.inr (Or.inl ⟨c_37, c_39, c_40, c_52, c_53, c_65, c_66, c_68⟩))))))))⟩), ⟨(by rw [ht9]; exact hP9), hD9⟩⟩, hS.F ht9⟩) hS.2.2 dX15_marchFinds_145 hlocks
                        · refine lv_iload_n hx hb dX15_marchFinds_77 rfl (lv_at hl 3 rfl) ?_
                          refine lv_bipush (v := 97) hx hb dX15_marchFinds_78 (by decide) ?_
                          refine lv_icmp_eq (tgt := 93) hx hb dX15_marchFinds_80 (by decide) (fun c_71 => ?_) (fun c_71 => ?_)
                          · refine lv_iload_n hx hb dX15_marchFinds_93 rfl (lv_at hl 3 rfl) ?_
                            refine lv_bipush (v := 99) hx hb dX15_marchFinds_94 (by decide) ?_
                            refine lv_icmp_ne (tgt := 109) hx hb dX15_marchFinds_96 (by decide) (fun c_72 => ?_) (fun c_72 => ?_)
                            · refine lv_iconst (v := 1) hx hb dX15_marchFinds_109 (by decide) ?_
                              refine lv_goto (tgt := 114) hx hb dX15_marchFinds_110 (by decide) ?_
                              refine lv_istore (lv' := [(8, .int 1), (7, .int 1), (6, .int 1), (0, .ref (a 200)), (1, .int p0), (2, .int p1), (3, .int p2), (4, .int p3), (5, .int p4)]) hx hb dX15_marchFinds_114 hl (by decide) rfl (fun ls hl => ?_)
                              refine lv_aload_n hx hb dX15_marchFinds_116 rfl (lv_at hl 3 rfl) ?_
                              refine lv_iload hx hb dX15_marchFinds_117 (lv_at hl 0 rfl) ?_
                              refine lv_if_ne (tgt := 126) hx hb dX15_marchFinds_119 (by decide) (fun c_73 => ?_) (fun c_73 => ?_)
                              · refine lv_aload_n hx hb dX15_marchFinds_126 rfl (lv_at hl 3 rfl) ?_
                                have hPc : va_P D vwCl [((a 200), f_m a g)] _ := hP.sub (ws' := [((a 200), f_m a g)]) [0] rfl
                                have hDc : va_D (fun q => z0 ≤ q) [((a 200), f_m a g)] := (hD.to hAz).pick (ws' := [((a 200), f_m a g)]) [0] (by decide) rfl
                                have hFc := AnA (ws := [((a 200), f_m a g)]) hS.1
                                refine va_calli (va_runV (As := []) (rest := [.ref (a 200)]) ⟨hx, hb, hml, hown, ht⟩ (k_X15_isRightNow l D g z0 _ a) (cwV 0 ht (gV w_514 w_516 w_517 w_334 w_515) rfl rfl rfl (by decide +kernel) (le2 rfl rfl)) ⟨PP.blind, va_recv hK.1 hP (ci := 21) (q0 := 0) rfl rfl, PP.mk' hK hZ hz hAz hS hPc hDc⟩ rfl rfl hl.1 rfl (lv_room (Nat.le_of_ble_eq_true rfl)) dX15_marchFinds_127 (le2 rfl rfl)) hS (fun q _ h => hFc q h) hFc (fun r u t H locs ht1 hvm hw hB hz1 hk1 hS => ?_)
                                obtain ⟨rfl, hw⟩ := hw
                                have hP := ro1 hP hk1
                                refine lv_if_ne (tgt := 137) hx hb dX15_marchFinds_130 (by decide) (fun c_74 => ?_) (fun c_74 => ?_)
                                · exact absurd c_74 (by decide)
                                · refine lv_iconst (v := 2) hx hb dX15_marchFinds_133 (by decide) ?_
                                  refine lv_goto (tgt := 138) hx hb dX15_marchFinds_134 (by decide) ?_
                                  have hPc : va_P D vwCl [((a 200), f_m a g)] _ := hP.sub (ws' := [((a 200), f_m a g)]) [0] rfl
                                  have hDc : va_D (fun q => z0 ≤ q) [((a 200), f_m a g)] := (hD.to hAz).pick (ws' := [((a 200), f_m a g)]) [0] (by decide) rfl
                                  have hFc := va_free (wc := [((a 200), f_m a g)]) hD hS hA [0] rfl
                                  refine va_calli (va_runV (As := [.int 2]) (rest := []) ⟨hx, hb, hml, hown, ht⟩ (k_X15_isWrong_v2 l D g z0 _ a) (cwV 1 ht (gV w_376 w_378 w_379 w_334 w_377) rfl rfl rfl (by decide +kernel) (le2 rfl rfl)) ⟨PP.blind, va_recv hK.1 hP (ci := 21) (q0 := 0) rfl rfl, PP.mk' hK hZ hz hAz hS hPc hDc⟩ rfl rfl hl.1 rfl (lv_room (Nat.le_of_ble_eq_true rfl)) dX15_marchFinds_138 (le2 rfl rfl)) hS (fun q _ h => hFc q h) hFc (fun r u t H locs ht1 hvm hw hB hz1 hk1 hS => ?_)
                                  obtain ⟨rfl, hw⟩ := hw
                                  obtain ⟨hP1, hD1⟩ := hB
                                  rw [ht1] at hP1
                                  obtain ⟨hP, hD⟩ := va_join (wr := []) (w1 := [((a 200), .inr (21, [.int 2, .ref (a 201), .ref (a 202), .ref (a 203), .ref (a 204), .ref (a 205), .ref (a 206), .int 0, .int 0, .int 0, .int 0, .ref (a 208), .ref (a 209), .ref (a 210), .ref (a 211), .ref (a 212), .int 4, .int 12, .int (-1), .int 0, .ref (g 200), .ref (a 213), .int 0, .int 97, .ref (a 214), .ref (a 215), .ref (a 207), .null, .int 0]))]) hP hD [0] [] rfl rfl (by decide) (by decide) hk1 hFc hP1 hD1
                                  have hP : va_P D vwCl [((a 200), .inr (21, [.int 2, .ref (a 201), .ref (a 202), .ref (a 203), .ref (a 204), .ref (a 205), .ref (a 206), .int 0, .int 0, .int 0, .int 0, .ref (a 208), .ref (a 209), .ref (a 210), .ref (a 211), .ref (a 212), .int 4, .int 12, .int (-1), .int 0, .ref (g 200), .ref (a 213), .int 0, .int 97, .ref (a 214), .ref (a 215), .ref (a 207), .null, .int 0]))] H := hP
                                  have hD : va_D (va_A [((a 200), f_m a g)] s.heap.size) [((a 200), .inr (21, [.int 2, .ref (a 201), .ref (a 202), .ref (a 203), .ref (a 204), .ref (a 205), .ref (a 206), .int 0, .int 0, .int 0, .int 0, .ref (a 208), .ref (a 209), .ref (a 210), .ref (a 211), .ref (a 212), .int 4, .int 12, .int (-1), .int 0, .ref (g 200), .ref (a 213), .int 0, .int 97, .ref (a 214), .ref (a 215), .ref (a 207), .null, .int 0]))] := hD
                                  refine lv_if_eq (tgt := 146) hx hb dX15_marchFinds_141 (by decide) (fun c_75 => ?_) (fun c_75 => ?_)
                                  · exact absurd c_75 (by decide)
                                  · refine lv_iconst (v := 0) hx hb dX15_marchFinds_144 (by decide) ?_
                                    have hP9 := hP.sub (ws' := [((a 200), .inr (21, [.int 2, .ref (a 201), .ref (a 202), .ref (a 203), .ref (a 204), .ref (a 205), .ref (a 206), .int 0, .int 0, .int 0, .int 0, .ref (a 208), .ref (a 209), .ref (a 210), .ref (a 211), .ref (a 212), .int 4, .int 12, .int (-1), .int 0, .ref (g 200), .ref (a 213), .int 0, .int 97, .ref (a 214), .ref (a 215), .ref (a 207), .null, .int 0]))]) [0] rfl
                                    have hD9 := hD.sub (ws' := [((a 200), .inr (21, [.int 2, .ref (a 201), .ref (a 202), .ref (a 203), .ref (a 204), .ref (a 205), .ref (a 206), .int 0, .int 0, .int 0, .int 0, .ref (a 208), .ref (a 209), .ref (a 210), .ref (a 211), .ref (a 212), .int 4, .int 12, .int (-1), .int 0, .ref (g 200), .ref (a 213), .int 0, .int 97, .ref (a 214), .ref (a 215), .ref (a 207), .null, .int 0]))]) [0] (by decide) rfl
                                    refine W.widen (k := 0) (n := 0) (Nat.le_of_ble_eq_true rfl) (Nat.le_of_ble_eq_true rfl) ?_
                                    exact W.zret (v := 0) hx hb hr rfl (fun t ht9 hW9 => ⟨⟨0, 2, rfl, (Or.inr ⟨rfl, rfl, (Or.inl ⟨c_37, c_39, c_40, c_52, c_53, c_65, c_66, c_68⟩)⟩), ⟨(by rw [ht9]; exact hP9), hD9⟩⟩, hS.F ht9⟩) hS.2.2 dX15_marchFinds_145 hlocks
                              · exact absurd c_73 (by decide)
                            · exact absurd (c_37.symm.trans c_72) (by decide)
                          · exact absurd c_37 c_71
  · obtain ⟨rfl, hw⟩ := hw
    have c_76 := hw
    have hP := ro1 hP hk1
    refine lv_if_lt (tgt := 14) hx hb dX15_marchFinds_7 (by decide) (fun c_77 => ?_) (fun c_77 => ?_)
    · exact absurd c_77 (by decide)
    · refine lv_iconst (v := 1) hx hb dX15_marchFinds_10 (by decide) ?_
      refine lv_goto (tgt := 15) hx hb dX15_marchFinds_11 (by decide) ?_
      refine lv_istore (lv' := [(6, .int 1), (0, .ref (a 200)), (1, .int p0), (2, .int p1), (3, .int p2), (4, .int p3), (5, .int p4)]) hx hb dX15_marchFinds_15 hl (by decide) rfl (fun ls hl => ?_)
      refine lv_iload_n hx hb dX15_marchFinds_17 rfl (lv_at hl 2 rfl) ?_
      refine lv_bipush (v := 99) hx hb dX15_marchFinds_18 (by decide) ?_
      refine lv_icmp_eq (tgt := 35) hx hb dX15_marchFinds_20 (by decide) (fun c_78 => ?_) (fun c_78 => ?_)
      · exact absurd (c_76.symm.trans c_78) (by decide)
      · refine lv_iload_n hx hb dX15_marchFinds_23 rfl (lv_at hl 2 rfl) ?_
        refine lv_bipush (v := 105) hx hb dX15_marchFinds_24 (by decide) ?_
        refine lv_icmp_eq (tgt := 35) hx hb dX15_marchFinds_26 (by decide) (fun c_79 => ?_) (fun c_79 => ?_)
        · refine lv_iconst (v := 1) hx hb dX15_marchFinds_35 (by decide) ?_
          refine lv_goto (tgt := 40) hx hb dX15_marchFinds_36 (by decide) ?_
          refine lv_istore (lv' := [(7, .int 1), (6, .int 1), (0, .ref (a 200)), (1, .int p0), (2, .int p1), (3, .int p2), (4, .int p3), (5, .int p4)]) hx hb dX15_marchFinds_40 hl (by decide) rfl (fun ls hl => ?_)
          refine lv_iload hx hb dX15_marchFinds_42 (lv_at hl 1 rfl) ?_
          refine lv_if_eq (tgt := 113) hx hb dX15_marchFinds_44 (by decide) (fun c_80 => ?_) (fun c_80 => ?_)
          · exact absurd c_80 (by decide)
          · refine lv_iload_n hx hb dX15_marchFinds_47 rfl (lv_at hl 4 rfl) ?_
            refine lv_iconst (v := 0) hx hb dX15_marchFinds_48 (by decide) ?_
            refine lv_bipush (v := 7) hx hb dX15_marchFinds_49 (by decide) ?_
            have hPc : va_P D vwCl [] _ := hP.sub (ws' := []) [] rfl
            have hDc : va_D (fun q => z0 ≤ q) [] := (hD.to hAz).pick (ws' := []) [] (by decide) rfl
            have hFc := AnA (ws := [((a 200), f_m a g)]) hS.1
            refine va_calli (va_runS (As := [.int p1, .int 0, .int 7]) (rest := []) ⟨hx, hb, hml, hown, ht⟩ (k_X15_isBetween_v9 l D g z0 _ a p1) (va_cwS 3 ht (gS w_369 w_371 w_334 w_370) rfl rfl rfl (by decide +kernel) (le2 rfl rfl)) ⟨PP.blind, PP.mk' hK hZ hz hAz hS hPc hDc⟩ rfl rfl hl.1 rfl (lv_room (Nat.le_of_ble_eq_true rfl)) dX15_marchFinds_51 (le2 rfl rfl)) hS (fun q _ h => hFc q h) hFc (fun r u t H locs ht1 hvm hw hB hz1 hk1 hS => ?_)
            rcases hw with hw | hw
            · obtain ⟨rfl, hw⟩ := hw
              rcases hw with hw | hw
              · have c_81 := hw
                have hP := ro1 hP hk1
                refine lv_if_eq (tgt := 113) hx hb dX15_marchFinds_54 (by decide) (fun c_82 => ?_) (fun c_82 => ?_)
                · refine lv_iconst (v := 0) hx hb dX15_marchFinds_113 (by decide) ?_
                  refine lv_istore (lv' := [(8, .int 0), (7, .int 1), (6, .int 1), (0, .ref (a 200)), (1, .int p0), (2, .int p1), (3, .int p2), (4, .int p3), (5, .int p4)]) hx hb dX15_marchFinds_114 hl (by decide) rfl (fun ls hl => ?_)
                  refine lv_aload_n hx hb dX15_marchFinds_116 rfl (lv_at hl 3 rfl) ?_
                  refine lv_iload hx hb dX15_marchFinds_117 (lv_at hl 0 rfl) ?_
                  refine lv_if_ne (tgt := 126) hx hb dX15_marchFinds_119 (by decide) (fun c_83 => ?_) (fun c_83 => ?_)
                  · exact absurd c_83 (by decide)
                  · refine lv_iconst (v := 1) hx hb dX15_marchFinds_122 (by decide) ?_
                    refine lv_goto (tgt := 138) hx hb dX15_marchFinds_123 (by decide) ?_
                    have hPc : va_P D vwCl [((a 200), f_m a g)] _ := hP.sub (ws' := [((a 200), f_m a g)]) [0] rfl
                    have hDc : va_D (fun q => z0 ≤ q) [((a 200), f_m a g)] := (hD.to hAz).pick (ws' := [((a 200), f_m a g)]) [0] (by decide) rfl
                    have hFc := va_free (wc := [((a 200), f_m a g)]) hD hS hA [0] rfl
                    refine va_calli (va_runV (As := [.int 1]) (rest := []) ⟨hx, hb, hml, hown, ht⟩ (k_X15_isWrong l D g z0 _ a) (cwV 1 ht (gV w_376 w_378 w_379 w_334 w_377) rfl rfl rfl (by decide +kernel) (le2 rfl rfl)) ⟨PP.blind, va_recv hK.1 hP (ci := 21) (q0 := 0) rfl rfl, PP.mk' hK hZ hz hAz hS hPc hDc⟩ rfl rfl hl.1 rfl (lv_room (Nat.le_of_ble_eq_true rfl)) dX15_marchFinds_138 (le2 rfl rfl)) hS (fun q _ h => hFc q h) hFc (fun r u t H locs ht1 hvm hw hB hz1 hk1 hS => ?_)
                    obtain ⟨rfl, hw⟩ := hw
                    obtain ⟨hP1, hD1⟩ := hB
                    rw [ht1] at hP1
                    obtain ⟨hP, hD⟩ := va_join (wr := []) (w1 := [((a 200), .inr (21, [.int 1, .ref (a 201), .ref (a 202), .ref (a 203), .ref (a 204), .ref (a 205), .ref (a 206), .int 0, .int 0, .int 0, .int 0, .ref (a 208), .ref (a 209), .ref (a 210), .ref (a 211), .ref (a 212), .int 4, .int 12, .int (-1), .int 0, .ref (g 200), .ref (a 213), .int 0, .int 97, .ref (a 214), .ref (a 215), .ref (a 207), .null, .int 0]))]) hP hD [0] [] rfl rfl (by decide) (by decide) hk1 hFc hP1 hD1
                    have hP : va_P D vwCl [((a 200), .inr (21, [.int 1, .ref (a 201), .ref (a 202), .ref (a 203), .ref (a 204), .ref (a 205), .ref (a 206), .int 0, .int 0, .int 0, .int 0, .ref (a 208), .ref (a 209), .ref (a 210), .ref (a 211), .ref (a 212), .int 4, .int 12, .int (-1), .int 0, .ref (g 200), .ref (a 213), .int 0, .int 97, .ref (a 214), .ref (a 215), .ref (a 207), .null, .int 0]))] H := hP
                    have hD : va_D (va_A [((a 200), f_m a g)] s.heap.size) [((a 200), .inr (21, [.int 1, .ref (a 201), .ref (a 202), .ref (a 203), .ref (a 204), .ref (a 205), .ref (a 206), .int 0, .int 0, .int 0, .int 0, .ref (a 208), .ref (a 209), .ref (a 210), .ref (a 211), .ref (a 212), .int 4, .int 12, .int (-1), .int 0, .ref (g 200), .ref (a 213), .int 0, .int 97, .ref (a 214), .ref (a 215), .ref (a 207), .null, .int 0]))] := hD
                    refine lv_if_eq (tgt := 146) hx hb dX15_marchFinds_141 (by decide) (fun c_84 => ?_) (fun c_84 => ?_)
                    · exact absurd c_84 (by decide)
                    · refine lv_iconst (v := 0) hx hb dX15_marchFinds_144 (by decide) ?_
                      have hP9 := hP.sub (ws' := [((a 200), .inr (21, [.int 1, .ref (a 201), .ref (a 202), .ref (a 203), .ref (a 204), .ref (a 205), .ref (a 206), .int 0, .int 0, .int 0, .int 0, .ref (a 208), .ref (a 209), .ref (a 210), .ref (a 211), .ref (a 212), .int 4, .int 12, .int (-1), .int 0, .ref (g 200), .ref (a 213), .int 0, .int 97, .ref (a 214), .ref (a 215), .ref (a 207), .null, .int 0]))]) [0] rfl
                      have hD9 := hD.sub (ws' := [((a 200), .inr (21, [.int 1, .ref (a 201), .ref (a 202), .ref (a 203), .ref (a 204), .ref (a 205), .ref (a 206), .int 0, .int 0, .int 0, .int 0, .ref (a 208), .ref (a 209), .ref (a 210), .ref (a 211), .ref (a 212), .int 4, .int 12, .int (-1), .int 0, .ref (g 200), .ref (a 213), .int 0, .int 97, .ref (a 214), .ref (a 215), .ref (a 207), .null, .int 0]))]) [0] (by decide) rfl
                      refine W.widen (k := 0) (n := 0) (Nat.le_of_ble_eq_true rfl) (Nat.le_of_ble_eq_true rfl) ?_
                      exact W.zret (v := 0) hx hb hr rfl (fun t ht9 hW9 => ⟨⟨0, 1, rfl, (Or.inl ⟨rfl, rfl, (Or.inr (Or.inr (Or.inr (Or.inr (Or.inr (Or.inr (Or.inr (Or.inr (Or.inl ⟨c_76, c_78, c_81⟩)))))))))⟩), ⟨(by rw [ht9]; exact hP9), hD9⟩⟩, hS.F ht9⟩) hS.2.2 dX15_marchFinds_145 hlocks
                · exact absurd c_82 (by decide)
              · obtain ⟨c_85, c_86⟩ := hw
                have hP := ro1 hP hk1
                refine lv_if_eq (tgt := 113) hx hb dX15_marchFinds_54 (by decide) (fun c_87 => ?_) (fun c_87 => ?_)
                · refine lv_iconst (v := 0) hx hb dX15_marchFinds_113 (by decide) ?_
                  refine lv_istore (lv' := [(8, .int 0), (7, .int 1), (6, .int 1), (0, .ref (a 200)), (1, .int p0), (2, .int p1), (3, .int p2), (4, .int p3), (5, .int p4)]) hx hb dX15_marchFinds_114 hl (by decide) rfl (fun ls hl => ?_)
                  refine lv_aload_n hx hb dX15_marchFinds_116 rfl (lv_at hl 3 rfl) ?_
                  refine lv_iload hx hb dX15_marchFinds_117 (lv_at hl 0 rfl) ?_
                  refine lv_if_ne (tgt := 126) hx hb dX15_marchFinds_119 (by decide) (fun c_88 => ?_) (fun c_88 => ?_)
                  · exact absurd c_88 (by decide)
                  · refine lv_iconst (v := 1) hx hb dX15_marchFinds_122 (by decide) ?_
                    refine lv_goto (tgt := 138) hx hb dX15_marchFinds_123 (by decide) ?_
                    have hPc : va_P D vwCl [((a 200), f_m a g)] _ := hP.sub (ws' := [((a 200), f_m a g)]) [0] rfl
                    have hDc : va_D (fun q => z0 ≤ q) [((a 200), f_m a g)] := (hD.to hAz).pick (ws' := [((a 200), f_m a g)]) [0] (by decide) rfl
                    have hFc := va_free (wc := [((a 200), f_m a g)]) hD hS hA [0] rfl
                    refine va_calli (va_runV (As := [.int 1]) (rest := []) ⟨hx, hb, hml, hown, ht⟩ (k_X15_isWrong l D g z0 _ a) (cwV 1 ht (gV w_376 w_378 w_379 w_334 w_377) rfl rfl rfl (by decide +kernel) (le2 rfl rfl)) ⟨PP.blind, va_recv hK.1 hP (ci := 21) (q0 := 0) rfl rfl, PP.mk' hK hZ hz hAz hS hPc hDc⟩ rfl rfl hl.1 rfl (lv_room (Nat.le_of_ble_eq_true rfl)) dX15_marchFinds_138 (le2 rfl rfl)) hS (fun q _ h => hFc q h) hFc (fun r u t H locs ht1 hvm hw hB hz1 hk1 hS => ?_)
                    obtain ⟨rfl, hw⟩ := hw
                    obtain ⟨hP1, hD1⟩ := hB
                    rw [ht1] at hP1
                    obtain ⟨hP, hD⟩ := va_join (wr := []) (w1 := [((a 200), .inr (21, [.int 1, .ref (a 201), .ref (a 202), .ref (a 203), .ref (a 204), .ref (a 205), .ref (a 206), .int 0, .int 0, .int 0, .int 0, .ref (a 208), .ref (a 209), .ref (a 210), .ref (a 211), .ref (a 212), .int 4, .int 12, .int (-1), .int 0, .ref (g 200), .ref (a 213), .int 0, .int 97, .ref (a 214), .ref (a 215), .ref (a 207), .null, .int 0]))]) hP hD [0] [] rfl rfl (by decide) (by decide) hk1 hFc hP1 hD1
                    have hP : va_P D vwCl [((a 200), .inr (21, [.int 1, .ref (a 201), .ref (a 202), .ref (a 203), .ref (a 204), .ref (a 205), .ref (a 206), .int 0, .int 0, .int 0, .int 0, .ref (a 208), .ref (a 209), .ref (a 210), .ref (a 211), .ref (a 212), .int 4, .int 12, .int (-1), .int 0, .ref (g 200), .ref (a 213), .int 0, .int 97, .ref (a 214), .ref (a 215), .ref (a 207), .null, .int 0]))] H := hP
                    have hD : va_D (va_A [((a 200), f_m a g)] s.heap.size) [((a 200), .inr (21, [.int 1, .ref (a 201), .ref (a 202), .ref (a 203), .ref (a 204), .ref (a 205), .ref (a 206), .int 0, .int 0, .int 0, .int 0, .ref (a 208), .ref (a 209), .ref (a 210), .ref (a 211), .ref (a 212), .int 4, .int 12, .int (-1), .int 0, .ref (g 200), .ref (a 213), .int 0, .int 97, .ref (a 214), .ref (a 215), .ref (a 207), .null, .int 0]))] := hD
                    refine lv_if_eq (tgt := 146) hx hb dX15_marchFinds_141 (by decide) (fun c_89 => ?_) (fun c_89 => ?_)
                    · exact absurd c_89 (by decide)
                    · refine lv_iconst (v := 0) hx hb dX15_marchFinds_144 (by decide) ?_
                      have hP9 := hP.sub (ws' := [((a 200), .inr (21, [.int 1, .ref (a 201), .ref (a 202), .ref (a 203), .ref (a 204), .ref (a 205), .ref (a 206), .int 0, .int 0, .int 0, .int 0, .ref (a 208), .ref (a 209), .ref (a 210), .ref (a 211), .ref (a 212), .int 4, .int 12, .int (-1), .int 0, .ref (g 200), .ref (a 213), .int 0, .int 97, .ref (a 214), .ref (a 215), .ref (a 207), .null, .int 0]))]) [0] rfl
                      have hD9 := hD.sub (ws' := [((a 200), .inr (21, [.int 1, .ref (a 201), .ref (a 202), .ref (a 203), .ref (a 204), .ref (a 205), .ref (a 206), .int 0, .int 0, .int 0, .int 0, .ref (a 208), .ref (a 209), .ref (a 210), .ref (a 211), .ref (a 212), .int 4, .int 12, .int (-1), .int 0, .ref (g 200), .ref (a 213), .int 0, .int 97, .ref (a 214), .ref (a 215), .ref (a 207), .null, .int 0]))]) [0] (by decide) rfl
                      refine W.widen (k := 0) (n := 0) (Nat.le_of_ble_eq_true rfl) (Nat.le_of_ble_eq_true rfl) ?_
                      exact W.zret (v := 0) hx hb hr rfl (fun t ht9 hW9 => ⟨⟨0, 1, rfl, (Or.inl ⟨rfl, rfl, (Or.inr (Or.inr (Or.inr (Or.inr (Or.inr (Or.inr (Or.inr (Or.inr (Or.inr (Or.inl ⟨c_76, c_78, c_85, c_86⟩))))))))))⟩), ⟨(by rw [ht9]; exact hP9), hD9⟩⟩, hS.F ht9⟩) hS.2.2 dX15_marchFinds_145 hlocks
                · exact absurd c_87 (by decide)
            · obtain ⟨rfl, hw⟩ := hw
              obtain ⟨c_90, c_91⟩ := hw
              have hP := ro1 hP hk1
              refine lv_if_eq (tgt := 113) hx hb dX15_marchFinds_54 (by decide) (fun c_92 => ?_) (fun c_92 => ?_)
              · exact absurd c_92 (by decide)
              · refine lv_iload hx hb dX15_marchFinds_57 (lv_at hl 0 rfl) ?_
                refine lv_if_eq (tgt := 77) hx hb dX15_marchFinds_59 (by decide) (fun c_93 => ?_) (fun c_93 => ?_)
                · exact absurd c_93 (by decide)
                · refine lv_iload_n hx hb dX15_marchFinds_62 rfl (lv_at hl 5 rfl) ?_
                  refine lv_iconst (v := 0) hx hb dX15_marchFinds_63 (by decide) ?_
                  refine lv_bipush (v := 7) hx hb dX15_marchFinds_64 (by decide) ?_
                  have hPc : va_P D vwCl [] _ := hP.sub (ws' := []) [] rfl
                  have hDc : va_D (fun q => z0 ≤ q) [] := (hD.to hAz).pick (ws' := []) [] (by decide) rfl
                  have hFc := AnA (ws := [((a 200), f_m a g)]) hS.1
                  refine va_calli (va_runS (As := [.int p2, .int 0, .int 7]) (rest := []) ⟨hx, hb, hml, hown, ht⟩ (k_X15_isBetween_v9 l D g z0 _ a p2) (va_cwS 3 ht (gS w_369 w_371 w_334 w_370) rfl rfl rfl (by decide +kernel) (le2 rfl rfl)) ⟨PP.blind, PP.mk' hK hZ hz hAz hS hPc hDc⟩ rfl rfl hl.1 rfl (lv_room (Nat.le_of_ble_eq_true rfl)) dX15_marchFinds_66 (le2 rfl rfl)) hS (fun q _ h => hFc q h) hFc (fun r u t H locs ht1 hvm hw hB hz1 hk1 hS => ?_)
                  rcases hw with hw | hw
                  · obtain ⟨rfl, hw⟩ := hw
                    rcases hw with hw | hw
                    · have c_94 := hw
                      have hP := ro1 hP hk1
                      refine lv_if_eq (tgt := 113) hx hb dX15_marchFinds_69 (by decide) (fun c_95 => ?_) (fun c_95 => ?_)
                      · refine lv_iconst (v := 0) hx hb dX15_marchFinds_113 (by decide) ?_
                        refine lv_istore (lv' := [(8, .int 0), (7, .int 1), (6, .int 1), (0, .ref (a 200)), (1, .int p0), (2, .int p1), (3, .int p2), (4, .int p3), (5, .int p4)]) hx hb dX15_marchFinds_114 hl (by decide) rfl (fun ls hl => ?_)
                        refine lv_aload_n hx hb dX15_marchFinds_116 rfl (lv_at hl 3 rfl) ?_
                        refine lv_iload hx hb dX15_marchFinds_117 (lv_at hl 0 rfl) ?_
                        refine lv_if_ne (tgt := 126) hx hb dX15_marchFinds_119 (by decide) (fun c_96 => ?_) (fun c_96 => ?_)
                        · exact absurd c_96 (by decide)
                        · refine lv_iconst (v := 1) hx hb dX15_marchFinds_122 (by decide) ?_
                          refine lv_goto (tgt := 138) hx hb dX15_marchFinds_123 (by decide) ?_
                          have hPc : va_P D vwCl [((a 200), f_m a g)] _ := hP.sub (ws' := [((a 200), f_m a g)]) [0] rfl
                          have hDc : va_D (fun q => z0 ≤ q) [((a 200), f_m a g)] := (hD.to hAz).pick (ws' := [((a 200), f_m a g)]) [0] (by decide) rfl
                          have hFc := va_free (wc := [((a 200), f_m a g)]) hD hS hA [0] rfl
                          refine va_calli (va_runV (As := [.int 1]) (rest := []) ⟨hx, hb, hml, hown, ht⟩ (k_X15_isWrong l D g z0 _ a) (cwV 1 ht (gV w_376 w_378 w_379 w_334 w_377) rfl rfl rfl (by decide +kernel) (le2 rfl rfl)) ⟨PP.blind, va_recv hK.1 hP (ci := 21) (q0 := 0) rfl rfl, PP.mk' hK hZ hz hAz hS hPc hDc⟩ rfl rfl hl.1 rfl (lv_room (Nat.le_of_ble_eq_true rfl)) dX15_marchFinds_138 (le2 rfl rfl)) hS (fun q _ h => hFc q h) hFc (fun r u t H locs ht1 hvm hw hB hz1 hk1 hS => ?_)
                          obtain ⟨rfl, hw⟩ := hw
                          obtain ⟨hP1, hD1⟩ := hB
                          rw [ht1] at hP1
                          obtain ⟨hP, hD⟩ := va_join (wr := []) (w1 := [((a 200), .inr (21, [.int 1, .ref (a 201), .ref (a 202), .ref (a 203), .ref (a 204), .ref (a 205), .ref (a 206), .int 0, .int 0, .int 0, .int 0, .ref (a 208), .ref (a 209), .ref (a 210), .ref (a 211), .ref (a 212), .int 4, .int 12, .int (-1), .int 0, .ref (g 200), .ref (a 213), .int 0, .int 97, .ref (a 214), .ref (a 215), .ref (a 207), .null, .int 0]))]) hP hD [0] [] rfl rfl (by decide) (by decide) hk1 hFc hP1 hD1
                          have hP : va_P D vwCl [((a 200), .inr (21, [.int 1, .ref (a 201), .ref (a 202), .ref (a 203), .ref (a 204), .ref (a 205), .ref (a 206), .int 0, .int 0, .int 0, .int 0, .ref (a 208), .ref (a 209), .ref (a 210), .ref (a 211), .ref (a 212), .int 4, .int 12, .int (-1), .int 0, .ref (g 200), .ref (a 213), .int 0, .int 97, .ref (a 214), .ref (a 215), .ref (a 207), .null, .int 0]))] H := hP
                          have hD : va_D (va_A [((a 200), f_m a g)] s.heap.size) [((a 200), .inr (21, [.int 1, .ref (a 201), .ref (a 202), .ref (a 203), .ref (a 204), .ref (a 205), .ref (a 206), .int 0, .int 0, .int 0, .int 0, .ref (a 208), .ref (a 209), .ref (a 210), .ref (a 211), .ref (a 212), .int 4, .int 12, .int (-1), .int 0, .ref (g 200), .ref (a 213), .int 0, .int 97, .ref (a 214), .ref (a 215), .ref (a 207), .null, .int 0]))] := hD
                          refine lv_if_eq (tgt := 146) hx hb dX15_marchFinds_141 (by decide) (fun c_97 => ?_) (fun c_97 => ?_)
                          · exact absurd c_97 (by decide)
                          · refine lv_iconst (v := 0) hx hb dX15_marchFinds_144 (by decide) ?_
                            have hP9 := hP.sub (ws' := [((a 200), .inr (21, [.int 1, .ref (a 201), .ref (a 202), .ref (a 203), .ref (a 204), .ref (a 205), .ref (a 206), .int 0, .int 0, .int 0, .int 0, .ref (a 208), .ref (a 209), .ref (a 210), .ref (a 211), .ref (a 212), .int 4, .int 12, .int (-1), .int 0, .ref (g 200), .ref (a 213), .int 0, .int 97, .ref (a 214), .ref (a 215), .ref (a 207), .null, .int 0]))]) [0] rfl
                            have hD9 := hD.sub (ws' := [((a 200), .inr (21, [.int 1, .ref (a 201), .ref (a 202), .ref (a 203), .ref (a 204), .ref (a 205), .ref (a 206), .int 0, .int 0, .int 0, .int 0, .ref (a 208), .ref (a 209), .ref (a 210), .ref (a 211), .ref (a 212), .int 4, .int 12, .int (-1), .int 0, .ref (g 200), .ref (a 213), .int 0, .int 97, .ref (a 214), .ref (a 215), .ref (a 207), .null, .int 0]))]) [0] (by decide) rfl
                            refine W.widen (k := 0) (n := 0) (Nat.le_of_ble_eq_true rfl) (Nat.le_of_ble_eq_true rfl) ?_
                            exact W.zret (v := 0) hx hb hr rfl (fun t ht9 hW9 => ⟨⟨0, 1, rfl, (Or.inl ⟨rfl, rfl, (Or.inr (Or.inr (Or.inr (Or.inr (Or.inr (Or.inr (Or.inr (Or.inr (Or.inr (Or.inr (Or.inl ⟨c_76, c_78, c_90, c_91, c_94⟩)))))))))))⟩), ⟨(by rw [ht9]; exact hP9), hD9⟩⟩, hS.F ht9⟩) hS.2.2 dX15_marchFinds_145 hlocks
                      · exact absurd c_95 (by decide)
                    · obtain ⟨c_98, c_99⟩ := hw
                      have hP := ro1 hP hk1
                      refine lv_if_eq (tgt := 113) hx hb dX15_marchFinds_69 (by decide) (fun c_100 => ?_) (fun c_100 => ?_)
                      · refine lv_iconst (v := 0) hx hb dX15_marchFinds_113 (by decide) ?_
                        refine lv_istore (lv' := [(8, .int 0), (7, .int 1), (6, .int 1), (0, .ref (a 200)), (1, .int p0), (2, .int p1), (3, .int p2), (4, .int p3), (5, .int p4)]) hx hb dX15_marchFinds_114 hl (by decide) rfl (fun ls hl => ?_)
                        refine lv_aload_n hx hb dX15_marchFinds_116 rfl (lv_at hl 3 rfl) ?_
                        refine lv_iload hx hb dX15_marchFinds_117 (lv_at hl 0 rfl) ?_
                        refine lv_if_ne (tgt := 126) hx hb dX15_marchFinds_119 (by decide) (fun c_101 => ?_) (fun c_101 => ?_)
                        · exact absurd c_101 (by decide)
                        · refine lv_iconst (v := 1) hx hb dX15_marchFinds_122 (by decide) ?_
                          refine lv_goto (tgt := 138) hx hb dX15_marchFinds_123 (by decide) ?_
                          have hPc : va_P D vwCl [((a 200), f_m a g)] _ := hP.sub (ws' := [((a 200), f_m a g)]) [0] rfl
                          have hDc : va_D (fun q => z0 ≤ q) [((a 200), f_m a g)] := (hD.to hAz).pick (ws' := [((a 200), f_m a g)]) [0] (by decide) rfl
                          have hFc := va_free (wc := [((a 200), f_m a g)]) hD hS hA [0] rfl
                          refine va_calli (va_runV (As := [.int 1]) (rest := []) ⟨hx, hb, hml, hown, ht⟩ (k_X15_isWrong l D g z0 _ a) (cwV 1 ht (gV w_376 w_378 w_379 w_334 w_377) rfl rfl rfl (by decide +kernel) (le2 rfl rfl)) ⟨PP.blind, va_recv hK.1 hP (ci := 21) (q0 := 0) rfl rfl, PP.mk' hK hZ hz hAz hS hPc hDc⟩ rfl rfl hl.1 rfl (lv_room (Nat.le_of_ble_eq_true rfl)) dX15_marchFinds_138 (le2 rfl rfl)) hS (fun q _ h => hFc q h) hFc (fun r u t H locs ht1 hvm hw hB hz1 hk1 hS => ?_)
                          obtain ⟨rfl, hw⟩ := hw
                          obtain ⟨hP1, hD1⟩ := hB
                          rw [ht1] at hP1
                          obtain ⟨hP, hD⟩ := va_join (wr := []) (w1 := [((a 200), .inr (21, [.int 1, .ref (a 201), .ref (a 202), .ref (a 203), .ref (a 204), .ref (a 205), .ref (a 206), .int 0, .int 0, .int 0, .int 0, .ref (a 208), .ref (a 209), .ref (a 210), .ref (a 211), .ref (a 212), .int 4, .int 12, .int (-1), .int 0, .ref (g 200), .ref (a 213), .int 0, .int 97, .ref (a 214), .ref (a 215), .ref (a 207), .null, .int 0]))]) hP hD [0] [] rfl rfl (by decide) (by decide) hk1 hFc hP1 hD1
                          have hP : va_P D vwCl [((a 200), .inr (21, [.int 1, .ref (a 201), .ref (a 202), .ref (a 203), .ref (a 204), .ref (a 205), .ref (a 206), .int 0, .int 0, .int 0, .int 0, .ref (a 208), .ref (a 209), .ref (a 210), .ref (a 211), .ref (a 212), .int 4, .int 12, .int (-1), .int 0, .ref (g 200), .ref (a 213), .int 0, .int 97, .ref (a 214), .ref (a 215), .ref (a 207), .null, .int 0]))] H := hP
                          have hD : va_D (va_A [((a 200), f_m a g)] s.heap.size) [((a 200), .inr (21, [.int 1, .ref (a 201), .ref (a 202), .ref (a 203), .ref (a 204), .ref (a 205), .ref (a 206), .int 0, .int 0, .int 0, .int 0, .ref (a 208), .ref (a 209), .ref (a 210), .ref (a 211), .ref (a 212), .int 4, .int 12, .int (-1), .int 0, .ref (g 200), .ref (a 213), .int 0, .int 97, .ref (a 214), .ref (a 215), .ref (a 207), .null, .int 0]))] := hD
                          refine lv_if_eq (tgt := 146) hx hb dX15_marchFinds_141 (by decide) (fun c_102 => ?_) (fun c_102 => ?_)
                          · exact absurd c_102 (by decide)
                          · refine lv_iconst (v := 0) hx hb dX15_marchFinds_144 (by decide) ?_
                            have hP9 := hP.sub (ws' := [((a 200), .inr (21, [.int 1, .ref (a 201), .ref (a 202), .ref (a 203), .ref (a 204), .ref (a 205), .ref (a 206), .int 0, .int 0, .int 0, .int 0, .ref (a 208), .ref (a 209), .ref (a 210), .ref (a 211), .ref (a 212), .int 4, .int 12, .int (-1), .int 0, .ref (g 200), .ref (a 213), .int 0, .int 97, .ref (a 214), .ref (a 215), .ref (a 207), .null, .int 0]))]) [0] rfl
                            have hD9 := hD.sub (ws' := [((a 200), .inr (21, [.int 1, .ref (a 201), .ref (a 202), .ref (a 203), .ref (a 204), .ref (a 205), .ref (a 206), .int 0, .int 0, .int 0, .int 0, .ref (a 208), .ref (a 209), .ref (a 210), .ref (a 211), .ref (a 212), .int 4, .int 12, .int (-1), .int 0, .ref (g 200), .ref (a 213), .int 0, .int 97, .ref (a 214), .ref (a 215), .ref (a 207), .null, .int 0]))]) [0] (by decide) rfl
                            refine W.widen (k := 0) (n := 0) (Nat.le_of_ble_eq_true rfl) (Nat.le_of_ble_eq_true rfl) ?_
                            exact W.zret (v := 0) hx hb hr rfl (fun t ht9 hW9 => ⟨⟨0, 1, rfl, (Or.inl ⟨rfl, rfl, (Or.inr (Or.inr (Or.inr (Or.inr (Or.inr (Or.inr (Or.inr (Or.inr (Or.inr (Or.inr (Or.inr (Or.inl ⟨c_76, c_78, c_90, c_91, c_98, c_99⟩))))))))))))⟩), ⟨(by rw [ht9]; exact hP9), hD9⟩⟩, hS.F ht9⟩) hS.2.2 dX15_marchFinds_145 hlocks
                      · exact absurd c_100 (by decide)
                  · obtain ⟨rfl, hw⟩ := hw
                    obtain ⟨c_103, c_104⟩ := hw
                    have hP := ro1 hP hk1
                    refine lv_if_eq (tgt := 113) hx hb dX15_marchFinds_69 (by decide) (fun c_105 => ?_) (fun c_105 => ?_)
                    · exact absurd c_105 (by decide)
                    · refine lv_iload_n hx hb dX15_marchFinds_72 rfl (lv_at hl 4 rfl) ?_
                      refine lv_iload_n hx hb dX15_marchFinds_73 rfl (lv_at hl 5 rfl) ?_
                      refine lv_icmp_eq (tgt := 113) hx hb dX15_marchFinds_74 (by decide) (fun c_106 => ?_) (fun c_106 => ?_)
                      · refine lv_iconst (v := 0) hx hb dX15_marchFinds_113 (by decide) ?_
                        refine lv_istore (lv' := [(8, .int 0), (7, .int 1), (6, .int 1), (0, .ref (a 200)), (1, .int p0), (2, .int p1), (3, .int p2), (4, .int p3), (5, .int p4)]) hx hb dX15_marchFinds_114 hl (by decide) rfl (fun ls hl => ?_)
                        refine lv_aload_n hx hb dX15_marchFinds_116 rfl (lv_at hl 3 rfl) ?_
                        refine lv_iload hx hb dX15_marchFinds_117 (lv_at hl 0 rfl) ?_
                        refine lv_if_ne (tgt := 126) hx hb dX15_marchFinds_119 (by decide) (fun c_107 => ?_) (fun c_107 => ?_)
                        · exact absurd c_107 (by decide)
                        · refine lv_iconst (v := 1) hx hb dX15_marchFinds_122 (by decide) ?_
                          refine lv_goto (tgt := 138) hx hb dX15_marchFinds_123 (by decide) ?_
                          have hPc : va_P D vwCl [((a 200), f_m a g)] _ := hP.sub (ws' := [((a 200), f_m a g)]) [0] rfl
                          have hDc : va_D (fun q => z0 ≤ q) [((a 200), f_m a g)] := (hD.to hAz).pick (ws' := [((a 200), f_m a g)]) [0] (by decide) rfl
                          have hFc := va_free (wc := [((a 200), f_m a g)]) hD hS hA [0] rfl
                          refine va_calli (va_runV (As := [.int 1]) (rest := []) ⟨hx, hb, hml, hown, ht⟩ (k_X15_isWrong l D g z0 _ a) (cwV 1 ht (gV w_376 w_378 w_379 w_334 w_377) rfl rfl rfl (by decide +kernel) (le2 rfl rfl)) ⟨PP.blind, va_recv hK.1 hP (ci := 21) (q0 := 0) rfl rfl, PP.mk' hK hZ hz hAz hS hPc hDc⟩ rfl rfl hl.1 rfl (lv_room (Nat.le_of_ble_eq_true rfl)) dX15_marchFinds_138 (le2 rfl rfl)) hS (fun q _ h => hFc q h) hFc (fun r u t H locs ht1 hvm hw hB hz1 hk1 hS => ?_)
                          obtain ⟨rfl, hw⟩ := hw
                          obtain ⟨hP1, hD1⟩ := hB
                          rw [ht1] at hP1
                          obtain ⟨hP, hD⟩ := va_join (wr := []) (w1 := [((a 200), .inr (21, [.int 1, .ref (a 201), .ref (a 202), .ref (a 203), .ref (a 204), .ref (a 205), .ref (a 206), .int 0, .int 0, .int 0, .int 0, .ref (a 208), .ref (a 209), .ref (a 210), .ref (a 211), .ref (a 212), .int 4, .int 12, .int (-1), .int 0, .ref (g 200), .ref (a 213), .int 0, .int 97, .ref (a 214), .ref (a 215), .ref (a 207), .null, .int 0]))]) hP hD [0] [] rfl rfl (by decide) (by decide) hk1 hFc hP1 hD1
                          have hP : va_P D vwCl [((a 200), .inr (21, [.int 1, .ref (a 201), .ref (a 202), .ref (a 203), .ref (a 204), .ref (a 205), .ref (a 206), .int 0, .int 0, .int 0, .int 0, .ref (a 208), .ref (a 209), .ref (a 210), .ref (a 211), .ref (a 212), .int 4, .int 12, .int (-1), .int 0, .ref (g 200), .ref (a 213), .int 0, .int 97, .ref (a 214), .ref (a 215), .ref (a 207), .null, .int 0]))] H := hP
                          have hD : va_D (va_A [((a 200), f_m a g)] s.heap.size) [((a 200), .inr (21, [.int 1, .ref (a 201), .ref (a 202), .ref (a 203), .ref (a 204), .ref (a 205), .ref (a 206), .int 0, .int 0, .int 0, .int 0, .ref (a 208), .ref (a 209), .ref (a 210), .ref (a 211), .ref (a 212), .int 4, .int 12, .int (-1), .int 0, .ref (g 200), .ref (a 213), .int 0, .int 97, .ref (a 214), .ref (a 215), .ref (a 207), .null, .int 0]))] := hD
                          refine lv_if_eq (tgt := 146) hx hb dX15_marchFinds_141 (by decide) (fun c_108 => ?_) (fun c_108 => ?_)
                          · exact absurd c_108 (by decide)
                          · refine lv_iconst (v := 0) hx hb dX15_marchFinds_144 (by decide) ?_
                            have hP9 := hP.sub (ws' := [((a 200), .inr (21, [.int 1, .ref (a 201), .ref (a 202), .ref (a 203), .ref (a 204), .ref (a 205), .ref (a 206), .int 0, .int 0, .int 0, .int 0, .ref (a 208), .ref (a 209), .ref (a 210), .ref (a 211), .ref (a 212), .int 4, .int 12, .int (-1), .int 0, .ref (g 200), .ref (a 213), .int 0, .int 97, .ref (a 214), .ref (a 215), .ref (a 207), .null, .int 0]))]) [0] rfl
                            have hD9 := hD.sub (ws' := [((a 200), .inr (21, [.int 1, .ref (a 201), .ref (a 202), .ref (a 203), .ref (a 204), .ref (a 205), .ref (a 206), .int 0, .int 0, .int 0, .int 0, .ref (a 208), .ref (a 209), .ref (a 210), .ref (a 211), .ref (a 212), .int 4, .int 12, .int (-1), .int 0, .ref (g 200), .ref (a 213), .int 0, .int 97, .ref (a 214), .ref (a 215), .ref (a 207), .null, .int 0]))]) [0] (by decide) rfl
                            refine W.widen (k := 0) (n := 0) (Nat.le_of_ble_eq_true rfl) (Nat.le_of_ble_eq_true rfl) ?_
                            exact W.zret (v := 0) hx hb hr rfl (fun t ht9 hW9 => ⟨⟨0, 1, rfl, (Or.inl ⟨rfl, rfl, (Or.inr (Or.inr (Or.inr (Or.inr (Or.inr (Or.inr (Or.inr (Or.inr (Or.inr (Or.inr (Or.inr (Or.inr (Or.inl ⟨c_76, c_78, c_90, c_91, c_103, c_104, c_106⟩)))))))))))))⟩), ⟨(by rw [ht9]; exact hP9), hD9⟩⟩, hS.F ht9⟩) hS.2.2 dX15_marchFinds_145 hlocks
                      · refine lv_iload_n hx hb dX15_marchFinds_77 rfl (lv_at hl 3 rfl) ?_
                        refine lv_bipush (v := 97) hx hb dX15_marchFinds_78 (by decide) ?_
                        refine lv_icmp_eq (tgt := 93) hx hb dX15_marchFinds_80 (by decide) (fun c_109 => ?_) (fun c_109 => ?_)
                        · exact absurd (c_76.symm.trans c_109) (by decide)
                        · refine lv_iload hx hb dX15_marchFinds_83 (lv_at hl 6 rfl) ?_
                          refine lv_iconst (v := 0) hx hb dX15_marchFinds_85 (by decide) ?_
                          refine lv_iconst (v := 1) hx hb dX15_marchFinds_86 (by decide) ?_
                          have hPc : va_P D vwCl [] _ := hP.sub (ws' := []) [] rfl
                          have hDc : va_D (fun q => z0 ≤ q) [] := (hD.to hAz).pick (ws' := []) [] (by decide) rfl
                          have hFc := AnA (ws := [((a 200), f_m a g)]) hS.1
                          refine va_calli (va_runS (As := [.int p3, .int 0, .int 1]) (rest := []) ⟨hx, hb, hml, hown, ht⟩ (k_X15_isBetween_v2 l D g z0 _ a p3) (va_cwS 3 ht (gS w_369 w_371 w_334 w_370) rfl rfl rfl (by decide +kernel) (le2 rfl rfl)) ⟨PP.blind, PP.mk' hK hZ hz hAz hS hPc hDc⟩ rfl rfl hl.1 rfl (lv_room (Nat.le_of_ble_eq_true rfl)) dX15_marchFinds_87 (le2 rfl rfl)) hS (fun q _ h => hFc q h) hFc (fun r u t H locs ht1 hvm hw hB hz1 hk1 hS => ?_)
                          rcases hw with hw | hw
                          · obtain ⟨rfl, hw⟩ := hw
                            rcases hw with hw | hw
                            · have c_110 := hw
                              have hP := ro1 hP hk1
                              refine lv_if_eq (tgt := 113) hx hb dX15_marchFinds_90 (by decide) (fun c_111 => ?_) (fun c_111 => ?_)
                              · refine lv_iconst (v := 0) hx hb dX15_marchFinds_113 (by decide) ?_
                                refine lv_istore (lv' := [(8, .int 0), (7, .int 1), (6, .int 1), (0, .ref (a 200)), (1, .int p0), (2, .int p1), (3, .int p2), (4, .int p3), (5, .int p4)]) hx hb dX15_marchFinds_114 hl (by decide) rfl (fun ls hl => ?_)
                                refine lv_aload_n hx hb dX15_marchFinds_116 rfl (lv_at hl 3 rfl) ?_
                                refine lv_iload hx hb dX15_marchFinds_117 (lv_at hl 0 rfl) ?_
                                refine lv_if_ne (tgt := 126) hx hb dX15_marchFinds_119 (by decide) (fun c_112 => ?_) (fun c_112 => ?_)
                                · exact absurd c_112 (by decide)
                                · refine lv_iconst (v := 1) hx hb dX15_marchFinds_122 (by decide) ?_
                                  refine lv_goto (tgt := 138) hx hb dX15_marchFinds_123 (by decide) ?_
                                  have hPc : va_P D vwCl [((a 200), f_m a g)] _ := hP.sub (ws' := [((a 200), f_m a g)]) [0] rfl
                                  have hDc : va_D (fun q => z0 ≤ q) [((a 200), f_m a g)] := (hD.to hAz).pick (ws' := [((a 200), f_m a g)]) [0] (by decide) rfl
                                  have hFc := va_free (wc := [((a 200), f_m a g)]) hD hS hA [0] rfl
                                  refine va_calli (va_runV (As := [.int 1]) (rest := []) ⟨hx, hb, hml, hown, ht⟩ (k_X15_isWrong l D g z0 _ a) (cwV 1 ht (gV w_376 w_378 w_379 w_334 w_377) rfl rfl rfl (by decide +kernel) (le2 rfl rfl)) ⟨PP.blind, va_recv hK.1 hP (ci := 21) (q0 := 0) rfl rfl, PP.mk' hK hZ hz hAz hS hPc hDc⟩ rfl rfl hl.1 rfl (lv_room (Nat.le_of_ble_eq_true rfl)) dX15_marchFinds_138 (le2 rfl rfl)) hS (fun q _ h => hFc q h) hFc (fun r u t H locs ht1 hvm hw hB hz1 hk1 hS => ?_)
                                  obtain ⟨rfl, hw⟩ := hw
                                  obtain ⟨hP1, hD1⟩ := hB
                                  rw [ht1] at hP1
                                  obtain ⟨hP, hD⟩ := va_join (wr := []) (w1 := [((a 200), .inr (21, [.int 1, .ref (a 201), .ref (a 202), .ref (a 203), .ref (a 204), .ref (a 205), .ref (a 206), .int 0, .int 0, .int 0, .int 0, .ref (a 208), .ref (a 209), .ref (a 210), .ref (a 211), .ref (a 212), .int 4, .int 12, .int (-1), .int 0, .ref (g 200), .ref (a 213), .int 0, .int 97, .ref (a 214), .ref (a 215), .ref (a 207), .null, .int 0]))]) hP hD [0] [] rfl rfl (by decide) (by decide) hk1 hFc hP1 hD1
                                  have hP : va_P D vwCl [((a 200), .inr (21, [.int 1, .ref (a 201), .ref (a 202), .ref (a 203), .ref (a 204), .ref (a 205), .ref (a 206), .int 0, .int 0, .int 0, .int 0, .ref (a 208), .ref (a 209), .ref (a 210), .ref (a 211), .ref (a 212), .int 4, .int 12, .int (-1), .int 0, .ref (g 200), .ref (a 213), .int 0, .int 97, .ref (a 214), .ref (a 215), .ref (a 207), .null, .int 0]))] H := hP
                                  have hD : va_D (va_A [((a 200), f_m a g)] s.heap.size) [((a 200), .inr (21, [.int 1, .ref (a 201), .ref (a 202), .ref (a 203), .ref (a 204), .ref (a 205), .ref (a 206), .int 0, .int 0, .int 0, .int 0, .ref (a 208), .ref (a 209), .ref (a 210), .ref (a 211), .ref (a 212), .int 4, .int 12, .int (-1), .int 0, .ref (g 200), .ref (a 213), .int 0, .int 97, .ref (a 214), .ref (a 215), .ref (a 207), .null, .int 0]))] := hD
                                  refine lv_if_eq (tgt := 146) hx hb dX15_marchFinds_141 (by decide) (fun c_113 => ?_) (fun c_113 => ?_)
                                  · exact absurd c_113 (by decide)
                                  · refine lv_iconst (v := 0) hx hb dX15_marchFinds_144 (by decide) ?_
                                    have hP9 := hP.sub (ws' := [((a 200), .inr (21, [.int 1, .ref (a 201), .ref (a 202), .ref (a 203), .ref (a 204), .ref (a 205), .ref (a 206), .int 0, .int 0, .int 0, .int 0, .ref (a 208), .ref (a 209), .ref (a 210), .ref (a 211), .ref (a 212), .int 4, .int 12, .int (-1), .int 0, .ref (g 200), .ref (a 213), .int 0, .int 97, .ref (a 214), .ref (a 215), .ref (a 207), .null, .int 0]))]) [0] rfl
                                    have hD9 := hD.sub (ws' := [((a 200), .inr (21, [.int 1, .ref (a 201), .ref (a 202), .ref (a 203), .ref (a 204), .ref (a 205), .ref (a 206), .int 0, .int 0, .int 0, .int 0, .ref (a 208), .ref (a 209), .ref (a 210), .ref (a 211), .ref (a 212), .int 4, .int 12, .int (-1), .int 0, .ref (g 200), .ref (a 213), .int 0, .int 97, .ref (a 214), .ref (a 215), .ref (a 207), .null, .int 0]))]) [0] (by decide) rfl
                                    refine W.widen (k := 0) (n := 0) (Nat.le_of_ble_eq_true rfl) (Nat.le_of_ble_eq_true rfl) ?_
                                    exact W.zret (v := 0) hx hb hr rfl (fun t ht9 hW9 => ⟨⟨0, 1, rfl, (Or.inl ⟨rfl, rfl, (Or.inr (Or.inr (Or.inr (Or.inr (Or.inr (Or.inr (Or.inr (Or.inr (Or.inr (Or.inr (Or.inr (Or.inr (Or.inr (Or.inl ⟨c_76, c_78, c_90, c_91, c_103, c_104, c_106, c_109, c_110⟩))))))))))))))⟩), ⟨(by rw [ht9]; exact hP9), hD9⟩⟩, hS.F ht9⟩) hS.2.2 dX15_marchFinds_145 hlocks
                              · exact absurd c_111 (by decide)
                            · obtain ⟨c_114, c_115⟩ := hw
                              have hP := ro1 hP hk1
                              refine lv_if_eq (tgt := 113) hx hb dX15_marchFinds_90 (by decide) (fun c_116 => ?_) (fun c_116 => ?_)
                              · refine lv_iconst (v := 0) hx hb dX15_marchFinds_113 (by decide) ?_
                                refine lv_istore (lv' := [(8, .int 0), (7, .int 1), (6, .int 1), (0, .ref (a 200)), (1, .int p0), (2, .int p1), (3, .int p2), (4, .int p3), (5, .int p4)]) hx hb dX15_marchFinds_114 hl (by decide) rfl (fun ls hl => ?_)
                                refine lv_aload_n hx hb dX15_marchFinds_116 rfl (lv_at hl 3 rfl) ?_
                                refine lv_iload hx hb dX15_marchFinds_117 (lv_at hl 0 rfl) ?_
                                refine lv_if_ne (tgt := 126) hx hb dX15_marchFinds_119 (by decide) (fun c_117 => ?_) (fun c_117 => ?_)
                                · exact absurd c_117 (by decide)
                                · refine lv_iconst (v := 1) hx hb dX15_marchFinds_122 (by decide) ?_
                                  refine lv_goto (tgt := 138) hx hb dX15_marchFinds_123 (by decide) ?_
                                  have hPc : va_P D vwCl [((a 200), f_m a g)] _ := hP.sub (ws' := [((a 200), f_m a g)]) [0] rfl
                                  have hDc : va_D (fun q => z0 ≤ q) [((a 200), f_m a g)] := (hD.to hAz).pick (ws' := [((a 200), f_m a g)]) [0] (by decide) rfl
                                  have hFc := va_free (wc := [((a 200), f_m a g)]) hD hS hA [0] rfl
                                  refine va_calli (va_runV (As := [.int 1]) (rest := []) ⟨hx, hb, hml, hown, ht⟩ (k_X15_isWrong l D g z0 _ a) (cwV 1 ht (gV w_376 w_378 w_379 w_334 w_377) rfl rfl rfl (by decide +kernel) (le2 rfl rfl)) ⟨PP.blind, va_recv hK.1 hP (ci := 21) (q0 := 0) rfl rfl, PP.mk' hK hZ hz hAz hS hPc hDc⟩ rfl rfl hl.1 rfl (lv_room (Nat.le_of_ble_eq_true rfl)) dX15_marchFinds_138 (le2 rfl rfl)) hS (fun q _ h => hFc q h) hFc (fun r u t H locs ht1 hvm hw hB hz1 hk1 hS => ?_)
                                  obtain ⟨rfl, hw⟩ := hw
                                  obtain ⟨hP1, hD1⟩ := hB
                                  rw [ht1] at hP1
                                  obtain ⟨hP, hD⟩ := va_join (wr := []) (w1 := [((a 200), .inr (21, [.int 1, .ref (a 201), .ref (a 202), .ref (a 203), .ref (a 204), .ref (a 205), .ref (a 206), .int 0, .int 0, .int 0, .int 0, .ref (a 208), .ref (a 209), .ref (a 210), .ref (a 211), .ref (a 212), .int 4, .int 12, .int (-1), .int 0, .ref (g 200), .ref (a 213), .int 0, .int 97, .ref (a 214), .ref (a 215), .ref (a 207), .null, .int 0]))]) hP hD [0] [] rfl rfl (by decide) (by decide) hk1 hFc hP1 hD1
                                  have hP : va_P D vwCl [((a 200), .inr (21, [.int 1, .ref (a 201), .ref (a 202), .ref (a 203), .ref (a 204), .ref (a 205), .ref (a 206), .int 0, .int 0, .int 0, .int 0, .ref (a 208), .ref (a 209), .ref (a 210), .ref (a 211), .ref (a 212), .int 4, .int 12, .int (-1), .int 0, .ref (g 200), .ref (a 213), .int 0, .int 97, .ref (a 214), .ref (a 215), .ref (a 207), .null, .int 0]))] H := hP
                                  have hD : va_D (va_A [((a 200), f_m a g)] s.heap.size) [((a 200), .inr (21, [.int 1, .ref (a 201), .ref (a 202), .ref (a 203), .ref (a 204), .ref (a 205), .ref (a 206), .int 0, .int 0, .int 0, .int 0, .ref (a 208), .ref (a 209), .ref (a 210), .ref (a 211), .ref (a 212), .int 4, .int 12, .int (-1), .int 0, .ref (g 200), .ref (a 213), .int 0, .int 97, .ref (a 214), .ref (a 215), .ref (a 207), .null, .int 0]))] := hD
                                  refine lv_if_eq (tgt := 146) hx hb dX15_marchFinds_141 (by decide) (fun c_118 => ?_) (fun c_118 => ?_)
                                  · exact absurd c_118 (by decide)
                                  · refine lv_iconst (v := 0) hx hb dX15_marchFinds_144 (by decide) ?_
                                    have hP9 := hP.sub (ws' := [((a 200), .inr (21, [.int 1, .ref (a 201), .ref (a 202), .ref (a 203), .ref (a 204), .ref (a 205), .ref (a 206), .int 0, .int 0, .int 0, .int 0, .ref (a 208), .ref (a 209), .ref (a 210), .ref (a 211), .ref (a 212), .int 4, .int 12, .int (-1), .int 0, .ref (g 200), .ref (a 213), .int 0, .int 97, .ref (a 214), .ref (a 215), .ref (a 207), .null, .int 0]))]) [0] rfl
                                    have hD9 := hD.sub (ws' := [((a 200), .inr (21, [.int 1, .ref (a 201), .ref (a 202), .ref (a 203), .ref (a 204), .ref (a 205), .ref (a 206), .int 0, .int 0, .int 0, .int 0, .ref (a 208), .ref (a 209), .ref (a 210), .ref (a 211), .ref (a 212), .int 4, .int 12, .int (-1), .int 0, .ref (g 200), .ref (a 213), .int 0, .int 97, .ref (a 214), .ref (a 215), .ref (a 207), .null, .int 0]))]) [0] (by decide) rfl
                                    refine W.widen (k := 0) (n := 0) (Nat.le_of_ble_eq_true rfl) (Nat.le_of_ble_eq_true rfl) ?_
                                    exact W.zret (v := 0) hx hb hr rfl (fun t ht9 hW9 => ⟨⟨0, 1, rfl, (Or.inl ⟨rfl, rfl, (Or.inr (Or.inr (Or.inr (Or.inr (Or.inr (Or.inr (Or.inr (Or.inr (Or.inr (Or.inr (Or.inr (Or.inr (Or.inr (Or.inr (Or.inl ⟨c_76, c_78, c_90, c_91, c_103, c_104, c_106, c_109, c_114, c_115⟩)))))))))))))))⟩), ⟨(by rw [ht9]; exact hP9), hD9⟩⟩, hS.F ht9⟩) hS.2.2 dX15_marchFinds_145 hlocks
                              · exact absurd c_116 (by decide)
                          · obtain ⟨rfl, hw⟩ := hw
                            obtain ⟨c_119, c_120⟩ := hw
                            have hP := ro1 hP hk1
                            refine lv_if_eq (tgt := 113) hx hb dX15_marchFinds_90 (by decide) (fun c_121 => ?_) (fun c_121 => ?_)
                            · exact absurd c_121 (by decide)
                            · refine lv_iload_n hx hb dX15_marchFinds_93 rfl (lv_at hl 3 rfl) ?_
                              refine lv_bipush (v := 99) hx hb dX15_marchFinds_94 (by decide) ?_
                              refine lv_icmp_ne (tgt := 109) hx hb dX15_marchFinds_96 (by decide) (fun c_122 => ?_) (fun c_122 => ?_)
                              · refine lv_iconst (v := 1) hx hb dX15_marchFinds_109 (by decide) ?_
                                refine lv_goto (tgt := 114) hx hb dX15_marchFinds_110 (by decide) ?_
                                refine lv_istore (lv' := [(8, .int 1), (7, .int 1), (6, .int 1), (0, .ref (a 200)), (1, .int p0), (2, .int p1), (3, .int p2), (4, .int p3), (5, .int p4)]) hx hb dX15_marchFinds_114 hl (by decide) rfl (fun ls hl => ?_)
                                refine lv_aload_n hx hb dX15_marchFinds_116 rfl (lv_at hl 3 rfl) ?_
                                refine lv_iload hx hb dX15_marchFinds_117 (lv_at hl 0 rfl) ?_
                                refine lv_if_ne (tgt := 126) hx hb dX15_marchFinds_119 (by decide) (fun c_123 => ?_) (fun c_123 => ?_)
                                · refine lv_aload_n hx hb dX15_marchFinds_126 rfl (lv_at hl 3 rfl) ?_
                                  have hPc : va_P D vwCl [((a 200), f_m a g)] _ := hP.sub (ws' := [((a 200), f_m a g)]) [0] rfl
                                  have hDc : va_D (fun q => z0 ≤ q) [((a 200), f_m a g)] := (hD.to hAz).pick (ws' := [((a 200), f_m a g)]) [0] (by decide) rfl
                                  have hFc := AnA (ws := [((a 200), f_m a g)]) hS.1
                                  refine va_calli (va_runV (As := []) (rest := [.ref (a 200)]) ⟨hx, hb, hml, hown, ht⟩ (k_X15_isRightNow l D g z0 _ a) (cwV 0 ht (gV w_514 w_516 w_517 w_334 w_515) rfl rfl rfl (by decide +kernel) (le2 rfl rfl)) ⟨PP.blind, va_recv hK.1 hP (ci := 21) (q0 := 0) rfl rfl, PP.mk' hK hZ hz hAz hS hPc hDc⟩ rfl rfl hl.1 rfl (lv_room (Nat.le_of_ble_eq_true rfl)) dX15_marchFinds_127 (le2 rfl rfl)) hS (fun q _ h => hFc q h) hFc (fun r u t H locs ht1 hvm hw hB hz1 hk1 hS => ?_)
                                  obtain ⟨rfl, hw⟩ := hw
                                  have hP := ro1 hP hk1
                                  refine lv_if_ne (tgt := 137) hx hb dX15_marchFinds_130 (by decide) (fun c_124 => ?_) (fun c_124 => ?_)
                                  · exact absurd c_124 (by decide)
                                  · refine lv_iconst (v := 2) hx hb dX15_marchFinds_133 (by decide) ?_
                                    refine lv_goto (tgt := 138) hx hb dX15_marchFinds_134 (by decide) ?_
                                    have hPc : va_P D vwCl [((a 200), f_m a g)] _ := hP.sub (ws' := [((a 200), f_m a g)]) [0] rfl
                                    have hDc : va_D (fun q => z0 ≤ q) [((a 200), f_m a g)] := (hD.to hAz).pick (ws' := [((a 200), f_m a g)]) [0] (by decide) rfl
                                    have hFc := va_free (wc := [((a 200), f_m a g)]) hD hS hA [0] rfl
                                    refine va_calli (va_runV (As := [.int 2]) (rest := []) ⟨hx, hb, hml, hown, ht⟩ (k_X15_isWrong_v2 l D g z0 _ a) (cwV 1 ht (gV w_376 w_378 w_379 w_334 w_377) rfl rfl rfl (by decide +kernel) (le2 rfl rfl)) ⟨PP.blind, va_recv hK.1 hP (ci := 21) (q0 := 0) rfl rfl, PP.mk' hK hZ hz hAz hS hPc hDc⟩ rfl rfl hl.1 rfl (lv_room (Nat.le_of_ble_eq_true rfl)) dX15_marchFinds_138 (le2 rfl rfl)) hS (fun q _ h => hFc q h) hFc (fun r u t H locs ht1 hvm hw hB hz1 hk1 hS => ?_)
                                    obtain ⟨rfl, hw⟩ := hw
                                    obtain ⟨hP1, hD1⟩ := hB
                                    rw [ht1] at hP1
                                    obtain ⟨hP, hD⟩ := va_join (wr := []) (w1 := [((a 200), .inr (21, [.int 2, .ref (a 201), .ref (a 202), .ref (a 203), .ref (a 204), .ref (a 205), .ref (a 206), .int 0, .int 0, .int 0, .int 0, .ref (a 208), .ref (a 209), .ref (a 210), .ref (a 211), .ref (a 212), .int 4, .int 12, .int (-1), .int 0, .ref (g 200), .ref (a 213), .int 0, .int 97, .ref (a 214), .ref (a 215), .ref (a 207), .null, .int 0]))]) hP hD [0] [] rfl rfl (by decide) (by decide) hk1 hFc hP1 hD1
                                    have hP : va_P D vwCl [((a 200), .inr (21, [.int 2, .ref (a 201), .ref (a 202), .ref (a 203), .ref (a 204), .ref (a 205), .ref (a 206), .int 0, .int 0, .int 0, .int 0, .ref (a 208), .ref (a 209), .ref (a 210), .ref (a 211), .ref (a 212), .int 4, .int 12, .int (-1), .int 0, .ref (g 200), .ref (a 213), .int 0, .int 97, .ref (a 214), .ref (a 215), .ref (a 207), .null, .int 0]))] H := hP
                                    have hD : va_D (va_A [((a 200), f_m a g)] s.heap.size) [((a 200), .inr (21, [.int 2, .ref (a 201), .ref (a 202), .ref (a 203), .ref (a 204), .ref (a 205), .ref (a 206), .int 0, .int 0, .int 0, .int 0, .ref (a 208), .ref (a 209), .ref (a 210), .ref (a 211), .ref (a 212), .int 4, .int 12, .int (-1), .int 0, .ref (g 200), .ref (a 213), .int 0, .int 97, .ref (a 214), .ref (a 215), .ref (a 207), .null, .int 0]))] := hD
                                    refine lv_if_eq (tgt := 146) hx hb dX15_marchFinds_141 (by decide) (fun c_125 => ?_) (fun c_125 => ?_)
                                    · exact absurd c_125 (by decide)
                                    · refine lv_iconst (v := 0) hx hb dX15_marchFinds_144 (by decide) ?_
                                      have hP9 := hP.sub (ws' := [((a 200), .inr (21, [.int 2, .ref (a 201), .ref (a 202), .ref (a 203), .ref (a 204), .ref (a 205), .ref (a 206), .int 0, .int 0, .int 0, .int 0, .ref (a 208), .ref (a 209), .ref (a 210), .ref (a 211), .ref (a 212), .int 4, .int 12, .int (-1), .int 0, .ref (g 200), .ref (a 213), .int 0, .int 97, .ref (a 214), .ref (a 215), .ref (a 207), .null, .int 0]))]) [0] rfl
                                      have hD9 := hD.sub (ws' := [((a 200), .inr (21, [.int 2, .ref (a 201), .ref (a 202), .ref (a 203), .ref (a 204), .ref (a 205), .ref (a 206), .int 0, .int 0, .int 0, .int 0, .ref (a 208), .ref (a 209), .ref (a 210), .ref (a 211), .ref (a 212), .int 4, .int 12, .int (-1), .int 0, .ref (g 200), .ref (a 213), .int 0, .int 97, .ref (a 214), .ref (a 215), .ref (a 207), .null, .int 0]))]) [0] (by decide) rfl
                                      refine W.widen (k := 0) (n := 0) (Nat.le_of_ble_eq_true rfl) (Nat.le_of_ble_eq_true rfl) ?_
                                      exact W.zret (v := 0) hx hb hr rfl (fun t ht9 hW9 => ⟨⟨0, 2, rfl, (Or.inr ⟨rfl, rfl, (Or.inr (Or.inl ⟨c_76, c_78, c_90, c_91, c_103, c_104, c_106, c_109, c_119, c_120⟩))⟩), ⟨(by rw [ht9]; exact hP9), hD9⟩⟩, hS.F ht9⟩) hS.2.2 dX15_marchFinds_145 hlocks
                                · exact absurd c_123 (by decide)
                              · exact absurd (c_76.symm.trans c_122) (by decide)
        · exact absurd c_76 c_79
  · obtain ⟨rfl, hw⟩ := hw
    have c_126 := hw
    have hP := ro1 hP hk1
    refine lv_if_lt (tgt := 14) hx hb dX15_marchFinds_7 (by decide) (fun c_127 => ?_) (fun c_127 => ?_)
    · exact absurd c_127 (by decide)
    · refine lv_iconst (v := 1) hx hb dX15_marchFinds_10 (by decide) ?_
      refine lv_goto (tgt := 15) hx hb dX15_marchFinds_11 (by decide) ?_
      refine lv_istore (lv' := [(6, .int 1), (0, .ref (a 200)), (1, .int p0), (2, .int p1), (3, .int p2), (4, .int p3), (5, .int p4)]) hx hb dX15_marchFinds_15 hl (by decide) rfl (fun ls hl => ?_)
      refine lv_iload_n hx hb dX15_marchFinds_17 rfl (lv_at hl 2 rfl) ?_
      refine lv_bipush (v := 99) hx hb dX15_marchFinds_18 (by decide) ?_
      refine lv_icmp_eq (tgt := 35) hx hb dX15_marchFinds_20 (by decide) (fun c_128 => ?_) (fun c_128 => ?_)
      · refine lv_iconst (v := 1) hx hb dX15_marchFinds_35 (by decide) ?_
        refine lv_goto (tgt := 40) hx hb dX15_marchFinds_36 (by decide) ?_
        refine lv_istore (lv' := [(7, .int 1), (6, .int 1), (0, .ref (a 200)), (1, .int p0), (2, .int p1), (3, .int p2), (4, .int p3), (5, .int p4)]) hx hb dX15_marchFinds_40 hl (by decide) rfl (fun ls hl => ?_)
        refine lv_iload hx hb dX15_marchFinds_42 (lv_at hl 1 rfl) ?_
        refine lv_if_eq (tgt := 113) hx hb dX15_marchFinds_44 (by decide) (fun c_129 => ?_) (fun c_129 => ?_)
        · exact absurd c_129 (by decide)
        · refine lv_iload_n hx hb dX15_marchFinds_47 rfl (lv_at hl 4 rfl) ?_
          refine lv_iconst (v := 0) hx hb dX15_marchFinds_48 (by decide) ?_
          refine lv_bipush (v := 7) hx hb dX15_marchFinds_49 (by decide) ?_
          have hPc : va_P D vwCl [] _ := hP.sub (ws' := []) [] rfl
          have hDc : va_D (fun q => z0 ≤ q) [] := (hD.to hAz).pick (ws' := []) [] (by decide) rfl
          have hFc := AnA (ws := [((a 200), f_m a g)]) hS.1
          refine va_calli (va_runS (As := [.int p1, .int 0, .int 7]) (rest := []) ⟨hx, hb, hml, hown, ht⟩ (k_X15_isBetween_v9 l D g z0 _ a p1) (va_cwS 3 ht (gS w_369 w_371 w_334 w_370) rfl rfl rfl (by decide +kernel) (le2 rfl rfl)) ⟨PP.blind, PP.mk' hK hZ hz hAz hS hPc hDc⟩ rfl rfl hl.1 rfl (lv_room (Nat.le_of_ble_eq_true rfl)) dX15_marchFinds_51 (le2 rfl rfl)) hS (fun q _ h => hFc q h) hFc (fun r u t H locs ht1 hvm hw hB hz1 hk1 hS => ?_)
          rcases hw with hw | hw
          · obtain ⟨rfl, hw⟩ := hw
            rcases hw with hw | hw
            · have c_130 := hw
              have hP := ro1 hP hk1
              refine lv_if_eq (tgt := 113) hx hb dX15_marchFinds_54 (by decide) (fun c_131 => ?_) (fun c_131 => ?_)
              · refine lv_iconst (v := 0) hx hb dX15_marchFinds_113 (by decide) ?_
                refine lv_istore (lv' := [(8, .int 0), (7, .int 1), (6, .int 1), (0, .ref (a 200)), (1, .int p0), (2, .int p1), (3, .int p2), (4, .int p3), (5, .int p4)]) hx hb dX15_marchFinds_114 hl (by decide) rfl (fun ls hl => ?_)
                refine lv_aload_n hx hb dX15_marchFinds_116 rfl (lv_at hl 3 rfl) ?_
                refine lv_iload hx hb dX15_marchFinds_117 (lv_at hl 0 rfl) ?_
                refine lv_if_ne (tgt := 126) hx hb dX15_marchFinds_119 (by decide) (fun c_132 => ?_) (fun c_132 => ?_)
                · exact absurd c_132 (by decide)
                · refine lv_iconst (v := 1) hx hb dX15_marchFinds_122 (by decide) ?_
                  refine lv_goto (tgt := 138) hx hb dX15_marchFinds_123 (by decide) ?_
                  have hPc : va_P D vwCl [((a 200), f_m a g)] _ := hP.sub (ws' := [((a 200), f_m a g)]) [0] rfl
                  have hDc : va_D (fun q => z0 ≤ q) [((a 200), f_m a g)] := (hD.to hAz).pick (ws' := [((a 200), f_m a g)]) [0] (by decide) rfl
                  have hFc := va_free (wc := [((a 200), f_m a g)]) hD hS hA [0] rfl
                  refine va_calli (va_runV (As := [.int 1]) (rest := []) ⟨hx, hb, hml, hown, ht⟩ (k_X15_isWrong l D g z0 _ a) (cwV 1 ht (gV w_376 w_378 w_379 w_334 w_377) rfl rfl rfl (by decide +kernel) (le2 rfl rfl)) ⟨PP.blind, va_recv hK.1 hP (ci := 21) (q0 := 0) rfl rfl, PP.mk' hK hZ hz hAz hS hPc hDc⟩ rfl rfl hl.1 rfl (lv_room (Nat.le_of_ble_eq_true rfl)) dX15_marchFinds_138 (le2 rfl rfl)) hS (fun q _ h => hFc q h) hFc (fun r u t H locs ht1 hvm hw hB hz1 hk1 hS => ?_)
                  obtain ⟨rfl, hw⟩ := hw
                  obtain ⟨hP1, hD1⟩ := hB
                  rw [ht1] at hP1
                  obtain ⟨hP, hD⟩ := va_join (wr := []) (w1 := [((a 200), .inr (21, [.int 1, .ref (a 201), .ref (a 202), .ref (a 203), .ref (a 204), .ref (a 205), .ref (a 206), .int 0, .int 0, .int 0, .int 0, .ref (a 208), .ref (a 209), .ref (a 210), .ref (a 211), .ref (a 212), .int 4, .int 12, .int (-1), .int 0, .ref (g 200), .ref (a 213), .int 0, .int 97, .ref (a 214), .ref (a 215), .ref (a 207), .null, .int 0]))]) hP hD [0] [] rfl rfl (by decide) (by decide) hk1 hFc hP1 hD1
                  have hP : va_P D vwCl [((a 200), .inr (21, [.int 1, .ref (a 201), .ref (a 202), .ref (a 203), .ref (a 204), .ref (a 205), .ref (a 206), .int 0, .int 0, .int 0, .int 0, .ref (a 208), .ref (a 209), .ref (a 210), .ref (a 211), .ref (a 212), .int 4, .int 12, .int (-1), .int 0, .ref (g 200), .ref (a 213), .int 0, .int 97, .ref (a 214), .ref (a 215), .ref (a 207), .null, .int 0]))] H := hP
                  have hD : va_D (va_A [((a 200), f_m a g)] s.heap.size) [((a 200), .inr (21, [.int 1, .ref (a 201), .ref (a 202), .ref (a 203), .ref (a 204), .ref (a 205), .ref (a 206), .int 0, .int 0, .int 0, .int 0, .ref (a 208), .ref (a 209), .ref (a 210), .ref (a 211), .ref (a 212), .int 4, .int 12, .int (-1), .int 0, .ref (g 200), .ref (a 213), .int 0, .int 97, .ref (a 214), .ref (a 215), .ref (a 207), .null, .int 0]))] := hD
                  refine lv_if_eq (tgt := 146) hx hb dX15_marchFinds_141 (by decide) (fun c_133 => ?_) (fun c_133 => ?_)
                  · exact absurd c_133 (by decide)
                  · refine lv_iconst (v := 0) hx hb dX15_marchFinds_144 (by decide) ?_
                    have hP9 := hP.sub (ws' := [((a 200), .inr (21, [.int 1, .ref (a 201), .ref (a 202), .ref (a 203), .ref (a 204), .ref (a 205), .ref (a 206), .int 0, .int 0, .int 0, .int 0, .ref (a 208), .ref (a 209), .ref (a 210), .ref (a 211), .ref (a 212), .int 4, .int 12, .int (-1), .int 0, .ref (g 200), .ref (a 213), .int 0, .int 97, .ref (a 214), .ref (a 215), .ref (a 207), .null, .int 0]))]) [0] rfl
                    have hD9 := hD.sub (ws' := [((a 200), .inr (21, [.int 1, .ref (a 201), .ref (a 202), .ref (a 203), .ref (a 204), .ref (a 205), .ref (a 206), .int 0, .int 0, .int 0, .int 0, .ref (a 208), .ref (a 209), .ref (a 210), .ref (a 211), .ref (a 212), .int 4, .int 12, .int (-1), .int 0, .ref (g 200), .ref (a 213), .int 0, .int 97, .ref (a 214), .ref (a 215), .ref (a 207), .null, .int 0]))]) [0] (by decide) rfl
                    refine W.widen (k := 0) (n := 0) (Nat.le_of_ble_eq_true rfl) (Nat.le_of_ble_eq_true rfl) ?_
                    exact W.zret (v := 0) hx hb hr rfl (fun t ht9 hW9 => ⟨⟨0, 1, rfl, (Or.inl ⟨rfl, rfl, (Or.inr (Or.inr (Or.inr (Or.inr (Or.inr (Or.inr (Or.inr (Or.inr (Or.inr (Or.inr (Or.inr (Or.inr (Or.inr (Or.inr (Or.inr (Or.inl ⟨c_126, c_130⟩))))))))))))))))⟩), ⟨(by rw [ht9]; exact hP9), hD9⟩⟩, hS.F ht9⟩) hS.2.2 dX15_marchFinds_145 hlocks
              · exact absurd c_131 (by decide)
            · obtain ⟨c_134, c_135⟩ := hw
              have hP := ro1 hP hk1
              refine lv_if_eq (tgt := 113) hx hb dX15_marchFinds_54 (by decide) (fun c_136 => ?_) (fun c_136 => ?_)
              · refine lv_iconst (v := 0) hx hb dX15_marchFinds_113 (by decide) ?_
                refine lv_istore (lv' := [(8, .int 0), (7, .int 1), (6, .int 1), (0, .ref (a 200)), (1, .int p0), (2, .int p1), (3, .int p2), (4, .int p3), (5, .int p4)]) hx hb dX15_marchFinds_114 hl (by decide) rfl (fun ls hl => ?_)
                refine lv_aload_n hx hb dX15_marchFinds_116 rfl (lv_at hl 3 rfl) ?_
                refine lv_iload hx hb dX15_marchFinds_117 (lv_at hl 0 rfl) ?_
                refine lv_if_ne (tgt := 126) hx hb dX15_marchFinds_119 (by decide) (fun c_137 => ?_) (fun c_137 => ?_)
                · exact absurd c_137 (by decide)
                · refine lv_iconst (v := 1) hx hb dX15_marchFinds_122 (by decide) ?_
                  refine lv_goto (tgt := 138) hx hb dX15_marchFinds_123 (by decide) ?_
                  have hPc : va_P D vwCl [((a 200), f_m a g)] _ := hP.sub (ws' := [((a 200), f_m a g)]) [0] rfl
                  have hDc : va_D (fun q => z0 ≤ q) [((a 200), f_m a g)] := (hD.to hAz).pick (ws' := [((a 200), f_m a g)]) [0] (by decide) rfl
                  have hFc := va_free (wc := [((a 200), f_m a g)]) hD hS hA [0] rfl
                  refine va_calli (va_runV (As := [.int 1]) (rest := []) ⟨hx, hb, hml, hown, ht⟩ (k_X15_isWrong l D g z0 _ a) (cwV 1 ht (gV w_376 w_378 w_379 w_334 w_377) rfl rfl rfl (by decide +kernel) (le2 rfl rfl)) ⟨PP.blind, va_recv hK.1 hP (ci := 21) (q0 := 0) rfl rfl, PP.mk' hK hZ hz hAz hS hPc hDc⟩ rfl rfl hl.1 rfl (lv_room (Nat.le_of_ble_eq_true rfl)) dX15_marchFinds_138 (le2 rfl rfl)) hS (fun q _ h => hFc q h) hFc (fun r u t H locs ht1 hvm hw hB hz1 hk1 hS => ?_)
                  obtain ⟨rfl, hw⟩ := hw
                  obtain ⟨hP1, hD1⟩ := hB
                  rw [ht1] at hP1
                  obtain ⟨hP, hD⟩ := va_join (wr := []) (w1 := [((a 200), .inr (21, [.int 1, .ref (a 201), .ref (a 202), .ref (a 203), .ref (a 204), .ref (a 205), .ref (a 206), .int 0, .int 0, .int 0, .int 0, .ref (a 208), .ref (a 209), .ref (a 210), .ref (a 211), .ref (a 212), .int 4, .int 12, .int (-1), .int 0, .ref (g 200), .ref (a 213), .int 0, .int 97, .ref (a 214), .ref (a 215), .ref (a 207), .null, .int 0]))]) hP hD [0] [] rfl rfl (by decide) (by decide) hk1 hFc hP1 hD1
                  have hP : va_P D vwCl [((a 200), .inr (21, [.int 1, .ref (a 201), .ref (a 202), .ref (a 203), .ref (a 204), .ref (a 205), .ref (a 206), .int 0, .int 0, .int 0, .int 0, .ref (a 208), .ref (a 209), .ref (a 210), .ref (a 211), .ref (a 212), .int 4, .int 12, .int (-1), .int 0, .ref (g 200), .ref (a 213), .int 0, .int 97, .ref (a 214), .ref (a 215), .ref (a 207), .null, .int 0]))] H := hP
                  have hD : va_D (va_A [((a 200), f_m a g)] s.heap.size) [((a 200), .inr (21, [.int 1, .ref (a 201), .ref (a 202), .ref (a 203), .ref (a 204), .ref (a 205), .ref (a 206), .int 0, .int 0, .int 0, .int 0, .ref (a 208), .ref (a 209), .ref (a 210), .ref (a 211), .ref (a 212), .int 4, .int 12, .int (-1), .int 0, .ref (g 200), .ref (a 213), .int 0, .int 97, .ref (a 214), .ref (a 215), .ref (a 207), .null, .int 0]))] := hD
                  refine lv_if_eq (tgt := 146) hx hb dX15_marchFinds_141 (by decide) (fun c_138 => ?_) (fun c_138 => ?_)
                  · exact absurd c_138 (by decide)
                  · refine lv_iconst (v := 0) hx hb dX15_marchFinds_144 (by decide) ?_
                    have hP9 := hP.sub (ws' := [((a 200), .inr (21, [.int 1, .ref (a 201), .ref (a 202), .ref (a 203), .ref (a 204), .ref (a 205), .ref (a 206), .int 0, .int 0, .int 0, .int 0, .ref (a 208), .ref (a 209), .ref (a 210), .ref (a 211), .ref (a 212), .int 4, .int 12, .int (-1), .int 0, .ref (g 200), .ref (a 213), .int 0, .int 97, .ref (a 214), .ref (a 215), .ref (a 207), .null, .int 0]))]) [0] rfl
                    have hD9 := hD.sub (ws' := [((a 200), .inr (21, [.int 1, .ref (a 201), .ref (a 202), .ref (a 203), .ref (a 204), .ref (a 205), .ref (a 206), .int 0, .int 0, .int 0, .int 0, .ref (a 208), .ref (a 209), .ref (a 210), .ref (a 211), .ref (a 212), .int 4, .int 12, .int (-1), .int 0, .ref (g 200), .ref (a 213), .int 0, .int 97, .ref (a 214), .ref (a 215), .ref (a 207), .null, .int 0]))]) [0] (by decide) rfl
                    refine W.widen (k := 0) (n := 0) (Nat.le_of_ble_eq_true rfl) (Nat.le_of_ble_eq_true rfl) ?_
                    exact W.zret (v := 0) hx hb hr rfl (fun t ht9 hW9 => ⟨⟨0, 1, rfl, (Or.inl ⟨rfl, rfl, (Or.inr (Or.inr (Or.inr (Or.inr (Or.inr (Or.inr (Or.inr (Or.inr (Or.inr (Or.inr (Or.inr (Or.inr (Or.inr (Or.inr (Or.inr (Or.inr (Or.inl ⟨c_126, c_134, c_135⟩)))))))))))))))))⟩), ⟨(by rw [ht9]; exact hP9), hD9⟩⟩, hS.F ht9⟩) hS.2.2 dX15_marchFinds_145 hlocks
              · exact absurd c_136 (by decide)
          · obtain ⟨rfl, hw⟩ := hw
            obtain ⟨c_139, c_140⟩ := hw
            have hP := ro1 hP hk1
            refine lv_if_eq (tgt := 113) hx hb dX15_marchFinds_54 (by decide) (fun c_141 => ?_) (fun c_141 => ?_)
            · exact absurd c_141 (by decide)
            · refine lv_iload hx hb dX15_marchFinds_57 (lv_at hl 0 rfl) ?_
              refine lv_if_eq (tgt := 77) hx hb dX15_marchFinds_59 (by decide) (fun c_142 => ?_) (fun c_142 => ?_)
              · exact absurd c_142 (by decide)
              · refine lv_iload_n hx hb dX15_marchFinds_62 rfl (lv_at hl 5 rfl) ?_
                refine lv_iconst (v := 0) hx hb dX15_marchFinds_63 (by decide) ?_
                refine lv_bipush (v := 7) hx hb dX15_marchFinds_64 (by decide) ?_
                have hPc : va_P D vwCl [] _ := hP.sub (ws' := []) [] rfl
                have hDc : va_D (fun q => z0 ≤ q) [] := (hD.to hAz).pick (ws' := []) [] (by decide) rfl
                have hFc := AnA (ws := [((a 200), f_m a g)]) hS.1
                refine va_calli (va_runS (As := [.int p2, .int 0, .int 7]) (rest := []) ⟨hx, hb, hml, hown, ht⟩ (k_X15_isBetween_v9 l D g z0 _ a p2) (va_cwS 3 ht (gS w_369 w_371 w_334 w_370) rfl rfl rfl (by decide +kernel) (le2 rfl rfl)) ⟨PP.blind, PP.mk' hK hZ hz hAz hS hPc hDc⟩ rfl rfl hl.1 rfl (lv_room (Nat.le_of_ble_eq_true rfl)) dX15_marchFinds_66 (le2 rfl rfl)) hS (fun q _ h => hFc q h) hFc (fun r u t H locs ht1 hvm hw hB hz1 hk1 hS => ?_)
                rcases hw with hw | hw
                · obtain ⟨rfl, hw⟩ := hw
                  rcases hw with hw | hw
                  · have c_143 := hw
                    have hP := ro1 hP hk1
                    refine lv_if_eq (tgt := 113) hx hb dX15_marchFinds_69 (by decide) (fun c_144 => ?_) (fun c_144 => ?_)
                    · refine lv_iconst (v := 0) hx hb dX15_marchFinds_113 (by decide) ?_
                      refine lv_istore (lv' := [(8, .int 0), (7, .int 1), (6, .int 1), (0, .ref (a 200)), (1, .int p0), (2, .int p1), (3, .int p2), (4, .int p3), (5, .int p4)]) hx hb dX15_marchFinds_114 hl (by decide) rfl (fun ls hl => ?_)
                      refine lv_aload_n hx hb dX15_marchFinds_116 rfl (lv_at hl 3 rfl) ?_
                      refine lv_iload hx hb dX15_marchFinds_117 (lv_at hl 0 rfl) ?_
                      refine lv_if_ne (tgt := 126) hx hb dX15_marchFinds_119 (by decide) (fun c_145 => ?_) (fun c_145 => ?_)
                      · exact absurd c_145 (by decide)
                      · refine lv_iconst (v := 1) hx hb dX15_marchFinds_122 (by decide) ?_
                        refine lv_goto (tgt := 138) hx hb dX15_marchFinds_123 (by decide) ?_
                        have hPc : va_P D vwCl [((a 200), f_m a g)] _ := hP.sub (ws' := [((a 200), f_m a g)]) [0] rfl
                        have hDc : va_D (fun q => z0 ≤ q) [((a 200), f_m a g)] := (hD.to hAz).pick (ws' := [((a 200), f_m a g)]) [0] (by decide) rfl
                        have hFc := va_free (wc := [((a 200), f_m a g)]) hD hS hA [0] rfl
                        refine va_calli (va_runV (As := [.int 1]) (rest := []) ⟨hx, hb, hml, hown, ht⟩ (k_X15_isWrong l D g z0 _ a) (cwV 1 ht (gV w_376 w_378 w_379 w_334 w_377) rfl rfl rfl (by decide +kernel) (le2 rfl rfl)) ⟨PP.blind, va_recv hK.1 hP (ci := 21) (q0 := 0) rfl rfl, PP.mk' hK hZ hz hAz hS hPc hDc⟩ rfl rfl hl.1 rfl (lv_room (Nat.le_of_ble_eq_true rfl)) dX15_marchFinds_138 (le2 rfl rfl)) hS (fun q _ h => hFc q h) hFc (fun r u t H locs ht1 hvm hw hB hz1 hk1 hS => ?_)
                        obtain ⟨rfl, hw⟩ := hw
                        obtain ⟨hP1, hD1⟩ := hB
                        rw [ht1] at hP1
                        obtain ⟨hP, hD⟩ := va_join (wr := []) (w1 := [((a 200), .inr (21, [.int 1, .ref (a 201), .ref (a 202), .ref (a 203), .ref (a 204), .ref (a 205), .ref (a 206), .int 0, .int 0, .int 0, .int 0, .ref (a 208), .ref (a 209), .ref (a 210), .ref (a 211), .ref (a 212), .int 4, .int 12, .int (-1), .int 0, .ref (g 200), .ref (a 213), .int 0, .int 97, .ref (a 214), .ref (a 215), .ref (a 207), .null, .int 0]))]) hP hD [0] [] rfl rfl (by decide) (by decide) hk1 hFc hP1 hD1
                        have hP : va_P D vwCl [((a 200), .inr (21, [.int 1, .ref (a 201), .ref (a 202), .ref (a 203), .ref (a 204), .ref (a 205), .ref (a 206), .int 0, .int 0, .int 0, .int 0, .ref (a 208), .ref (a 209), .ref (a 210), .ref (a 211), .ref (a 212), .int 4, .int 12, .int (-1), .int 0, .ref (g 200), .ref (a 213), .int 0, .int 97, .ref (a 214), .ref (a 215), .ref (a 207), .null, .int 0]))] H := hP
                        have hD : va_D (va_A [((a 200), f_m a g)] s.heap.size) [((a 200), .inr (21, [.int 1, .ref (a 201), .ref (a 202), .ref (a 203), .ref (a 204), .ref (a 205), .ref (a 206), .int 0, .int 0, .int 0, .int 0, .ref (a 208), .ref (a 209), .ref (a 210), .ref (a 211), .ref (a 212), .int 4, .int 12, .int (-1), .int 0, .ref (g 200), .ref (a 213), .int 0, .int 97, .ref (a 214), .ref (a 215), .ref (a 207), .null, .int 0]))] := hD
                        refine lv_if_eq (tgt := 146) hx hb dX15_marchFinds_141 (by decide) (fun c_146 => ?_) (fun c_146 => ?_)
                        · exact absurd c_146 (by decide)
                        · refine lv_iconst (v := 0) hx hb dX15_marchFinds_144 (by decide) ?_
                          have hP9 := hP.sub (ws' := [((a 200), .inr (21, [.int 1, .ref (a 201), .ref (a 202), .ref (a 203), .ref (a 204), .ref (a 205), .ref (a 206), .int 0, .int 0, .int 0, .int 0, .ref (a 208), .ref (a 209), .ref (a 210), .ref (a 211), .ref (a 212), .int 4, .int 12, .int (-1), .int 0, .ref (g 200), .ref (a 213), .int 0, .int 97, .ref (a 214), .ref (a 215), .ref (a 207), .null, .int 0]))]) [0] rfl
                          have hD9 := hD.sub (ws' := [((a 200), .inr (21, [.int 1, .ref (a 201), .ref (a 202), .ref (a 203), .ref (a 204), .ref (a 205), .ref (a 206), .int 0, .int 0, .int 0, .int 0, .ref (a 208), .ref (a 209), .ref (a 210), .ref (a 211), .ref (a 212), .int 4, .int 12, .int (-1), .int 0, .ref (g 200), .ref (a 213), .int 0, .int 97, .ref (a 214), .ref (a 215), .ref (a 207), .null, .int 0]))]) [0] (by decide) rfl
                          refine W.widen (k := 0) (n := 0) (Nat.le_of_ble_eq_true rfl) (Nat.le_of_ble_eq_true rfl) ?_
                          exact W.zret (v := 0) hx hb hr rfl (fun t ht9 hW9 => ⟨⟨0, 1, rfl, (Or.inl ⟨rfl, rfl, (Or.inr (Or.inr (Or.inr (Or.inr (Or.inr (Or.inr (Or.inr (Or.inr (Or.inr (Or.inr (Or.inr (Or.inr (Or.inr (Or.inr (Or.inr (Or.inr (Or.inr (Or.inl ⟨c_126, c_139, c_140, c_143⟩))))))))))))))))))⟩), ⟨(by rw [ht9]; exact hP9), hD9⟩⟩, hS.F ht9⟩) hS.2.2 dX15_marchFinds_145 hlocks
                    · exact absurd c_144 (by decide)
                  · obtain ⟨c_147, c_148⟩ := hw
                    have hP := ro1 hP hk1
                    refine lv_if_eq (tgt := 113) hx hb dX15_marchFinds_69 (by decide) (fun c_149 => ?_) (fun c_149 => ?_)
                    · refine lv_iconst (v := 0) hx hb dX15_marchFinds_113 (by decide) ?_
                      refine lv_istore (lv' := [(8, .int 0), (7, .int 1), (6, .int 1), (0, .ref (a 200)), (1, .int p0), (2, .int p1), (3, .int p2), (4, .int p3), (5, .int p4)]) hx hb dX15_marchFinds_114 hl (by decide) rfl (fun ls hl => ?_)
                      refine lv_aload_n hx hb dX15_marchFinds_116 rfl (lv_at hl 3 rfl) ?_
                      refine lv_iload hx hb dX15_marchFinds_117 (lv_at hl 0 rfl) ?_
                      refine lv_if_ne (tgt := 126) hx hb dX15_marchFinds_119 (by decide) (fun c_150 => ?_) (fun c_150 => ?_)
                      · exact absurd c_150 (by decide)
                      · refine lv_iconst (v := 1) hx hb dX15_marchFinds_122 (by decide) ?_
                        refine lv_goto (tgt := 138) hx hb dX15_marchFinds_123 (by decide) ?_
                        have hPc : va_P D vwCl [((a 200), f_m a g)] _ := hP.sub (ws' := [((a 200), f_m a g)]) [0] rfl
                        have hDc : va_D (fun q => z0 ≤ q) [((a 200), f_m a g)] := (hD.to hAz).pick (ws' := [((a 200), f_m a g)]) [0] (by decide) rfl
                        have hFc := va_free (wc := [((a 200), f_m a g)]) hD hS hA [0] rfl
                        refine va_calli (va_runV (As := [.int 1]) (rest := []) ⟨hx, hb, hml, hown, ht⟩ (k_X15_isWrong l D g z0 _ a) (cwV 1 ht (gV w_376 w_378 w_379 w_334 w_377) rfl rfl rfl (by decide +kernel) (le2 rfl rfl)) ⟨PP.blind, va_recv hK.1 hP (ci := 21) (q0 := 0) rfl rfl, PP.mk' hK hZ hz hAz hS hPc hDc⟩ rfl rfl hl.1 rfl (lv_room (Nat.le_of_ble_eq_true rfl)) dX15_marchFinds_138 (le2 rfl rfl)) hS (fun q _ h => hFc q h) hFc (fun r u t H locs ht1 hvm hw hB hz1 hk1 hS => ?_)
                        obtain ⟨rfl, hw⟩ := hw
                        obtain ⟨hP1, hD1⟩ := hB
                        rw [ht1] at hP1
                        obtain ⟨hP, hD⟩ := va_join (wr := []) (w1 := [((a 200), .inr (21, [.int 1, .ref (a 201), .ref (a 202), .ref (a 203), .ref (a 204), .ref (a 205), .ref (a 206), .int 0, .int 0, .int 0, .int 0, .ref (a 208), .ref (a 209), .ref (a 210), .ref (a 211), .ref (a 212), .int 4, .int 12, .int (-1), .int 0, .ref (g 200), .ref (a 213), .int 0, .int 97, .ref (a 214), .ref (a 215), .ref (a 207), .null, .int 0]))]) hP hD [0] [] rfl rfl (by decide) (by decide) hk1 hFc hP1 hD1
                        have hP : va_P D vwCl [((a 200), .inr (21, [.int 1, .ref (a 201), .ref (a 202), .ref (a 203), .ref (a 204), .ref (a 205), .ref (a 206), .int 0, .int 0, .int 0, .int 0, .ref (a 208), .ref (a 209), .ref (a 210), .ref (a 211), .ref (a 212), .int 4, .int 12, .int (-1), .int 0, .ref (g 200), .ref (a 213), .int 0, .int 97, .ref (a 214), .ref (a 215), .ref (a 207), .null, .int 0]))] H := hP
                        have hD : va_D (va_A [((a 200), f_m a g)] s.heap.size) [((a 200), .inr (21, [.int 1, .ref (a 201), .ref (a 202), .ref (a 203), .ref (a 204), .ref (a 205), .ref (a 206), .int 0, .int 0, .int 0, .int 0, .ref (a 208), .ref (a 209), .ref (a 210), .ref (a 211), .ref (a 212), .int 4, .int 12, .int (-1), .int 0, .ref (g 200), .ref (a 213), .int 0, .int 97, .ref (a 214), .ref (a 215), .ref (a 207), .null, .int 0]))] := hD
                        refine lv_if_eq (tgt := 146) hx hb dX15_marchFinds_141 (by decide) (fun c_151 => ?_) (fun c_151 => ?_)
                        · exact absurd c_151 (by decide)
                        · refine lv_iconst (v := 0) hx hb dX15_marchFinds_144 (by decide) ?_
                          have hP9 := hP.sub (ws' := [((a 200), .inr (21, [.int 1, .ref (a 201), .ref (a 202), .ref (a 203), .ref (a 204), .ref (a 205), .ref (a 206), .int 0, .int 0, .int 0, .int 0, .ref (a 208), .ref (a 209), .ref (a 210), .ref (a 211), .ref (a 212), .int 4, .int 12, .int (-1), .int 0, .ref (g 200), .ref (a 213), .int 0, .int 97, .ref (a 214), .ref (a 215), .ref (a 207), .null, .int 0]))]) [0] rfl
                          have hD9 := hD.sub (ws' := [((a 200), .inr (21, [.int 1, .ref (a 201), .ref (a 202), .ref (a 203), .ref (a 204), .ref (a 205), .ref (a 206), .int 0, .int 0, .int 0, .int 0, .ref (a 208), .ref (a 209), .ref (a 210), .ref (a 211), .ref (a 212), .int 4, .int 12, .int (-1), .int 0, .ref (g 200), .ref (a 213), .int 0, .int 97, .ref (a 214), .ref (a 215), .ref (a 207), .null, .int 0]))]) [0] (by decide) rfl
                          refine W.widen (k := 0) (n := 0) (Nat.le_of_ble_eq_true rfl) (Nat.le_of_ble_eq_true rfl) ?_
                          exact W.zret (v := 0) hx hb hr rfl (fun t ht9 hW9 => ⟨⟨0, 1, rfl, (Or.inl ⟨rfl, rfl, (Or.inr (Or.inr (Or.inr (Or.inr (Or.inr (Or.inr (Or.inr (Or.inr (Or.inr (Or.inr (Or.inr (Or.inr (Or.inr (Or.inr (Or.inr (Or.inr (Or.inr (Or.inr (Or.inl ⟨c_126, c_139, c_140, c_147, c_148⟩)))))))))))))))))))⟩), ⟨(by rw [ht9]; exact hP9), hD9⟩⟩, hS.F ht9⟩) hS.2.2 dX15_marchFinds_145 hlocks
                    · exact absurd c_149 (by decide)
                · obtain ⟨rfl, hw⟩ := hw
                  obtain ⟨c_152, c_153⟩ := hw
                  have hP := ro1 hP hk1
                  refine lv_if_eq (tgt := 113) hx hb dX15_marchFinds_69 (by decide) (fun c_154 => ?_) (fun c_154 => ?_)
                  · exact absurd c_154 (by decide)
                  · refine lv_iload_n hx hb dX15_marchFinds_72 rfl (lv_at hl 4 rfl) ?_
                    refine lv_iload_n hx hb dX15_marchFinds_73 rfl (lv_at hl 5 rfl) ?_
                    refine lv_icmp_eq (tgt := 113) hx hb dX15_marchFinds_74 (by decide) (fun c_155 => ?_) (fun c_155 => ?_)
                    · refine lv_iconst (v := 0) hx hb dX15_marchFinds_113 (by decide) ?_
                      refine lv_istore (lv' := [(8, .int 0), (7, .int 1), (6, .int 1), (0, .ref (a 200)), (1, .int p0), (2, .int p1), (3, .int p2), (4, .int p3), (5, .int p4)]) hx hb dX15_marchFinds_114 hl (by decide) rfl (fun ls hl => ?_)
                      refine lv_aload_n hx hb dX15_marchFinds_116 rfl (lv_at hl 3 rfl) ?_
                      refine lv_iload hx hb dX15_marchFinds_117 (lv_at hl 0 rfl) ?_
                      refine lv_if_ne (tgt := 126) hx hb dX15_marchFinds_119 (by decide) (fun c_156 => ?_) (fun c_156 => ?_)
                      · exact absurd c_156 (by decide)
                      · refine lv_iconst (v := 1) hx hb dX15_marchFinds_122 (by decide) ?_
                        refine lv_goto (tgt := 138) hx hb dX15_marchFinds_123 (by decide) ?_
                        have hPc : va_P D vwCl [((a 200), f_m a g)] _ := hP.sub (ws' := [((a 200), f_m a g)]) [0] rfl
                        have hDc : va_D (fun q => z0 ≤ q) [((a 200), f_m a g)] := (hD.to hAz).pick (ws' := [((a 200), f_m a g)]) [0] (by decide) rfl
                        have hFc := va_free (wc := [((a 200), f_m a g)]) hD hS hA [0] rfl
                        refine va_calli (va_runV (As := [.int 1]) (rest := []) ⟨hx, hb, hml, hown, ht⟩ (k_X15_isWrong l D g z0 _ a) (cwV 1 ht (gV w_376 w_378 w_379 w_334 w_377) rfl rfl rfl (by decide +kernel) (le2 rfl rfl)) ⟨PP.blind, va_recv hK.1 hP (ci := 21) (q0 := 0) rfl rfl, PP.mk' hK hZ hz hAz hS hPc hDc⟩ rfl rfl hl.1 rfl (lv_room (Nat.le_of_ble_eq_true rfl)) dX15_marchFinds_138 (le2 rfl rfl)) hS (fun q _ h => hFc q h) hFc (fun r u t H locs ht1 hvm hw hB hz1 hk1 hS => ?_)
                        obtain ⟨rfl, hw⟩ := hw
                        obtain ⟨hP1, hD1⟩ := hB
                        rw [ht1] at hP1
                        obtain ⟨hP, hD⟩ := va_join (wr := []) (w1 := [((a 200), .inr (21, [.int 1, .ref (a 201), .ref (a 202), .ref (a 203), .ref (a 204), .ref (a 205), .ref (a 206), .int 0, .int 0, .int 0, .int 0, .ref (a 208), .ref (a 209), .ref (a 210), .ref (a 211), .ref (a 212), .int 4, .int 12, .int (-1), .int 0, .ref (g 200), .ref (a 213), .int 0, .int 97, .ref (a 214), .ref (a 215), .ref (a 207), .null, .int 0]))]) hP hD [0] [] rfl rfl (by decide) (by decide) hk1 hFc hP1 hD1
                        have hP : va_P D vwCl [((a 200), .inr (21, [.int 1, .ref (a 201), .ref (a 202), .ref (a 203), .ref (a 204), .ref (a 205), .ref (a 206), .int 0, .int 0, .int 0, .int 0, .ref (a 208), .ref (a 209), .ref (a 210), .ref (a 211), .ref (a 212), .int 4, .int 12, .int (-1), .int 0, .ref (g 200), .ref (a 213), .int 0, .int 97, .ref (a 214), .ref (a 215), .ref (a 207), .null, .int 0]))] H := hP
                        have hD : va_D (va_A [((a 200), f_m a g)] s.heap.size) [((a 200), .inr (21, [.int 1, .ref (a 201), .ref (a 202), .ref (a 203), .ref (a 204), .ref (a 205), .ref (a 206), .int 0, .int 0, .int 0, .int 0, .ref (a 208), .ref (a 209), .ref (a 210), .ref (a 211), .ref (a 212), .int 4, .int 12, .int (-1), .int 0, .ref (g 200), .ref (a 213), .int 0, .int 97, .ref (a 214), .ref (a 215), .ref (a 207), .null, .int 0]))] := hD
                        refine lv_if_eq (tgt := 146) hx hb dX15_marchFinds_141 (by decide) (fun c_157 => ?_) (fun c_157 => ?_)
                        · exact absurd c_157 (by decide)
                        · refine lv_iconst (v := 0) hx hb dX15_marchFinds_144 (by decide) ?_
                          have hP9 := hP.sub (ws' := [((a 200), .inr (21, [.int 1, .ref (a 201), .ref (a 202), .ref (a 203), .ref (a 204), .ref (a 205), .ref (a 206), .int 0, .int 0, .int 0, .int 0, .ref (a 208), .ref (a 209), .ref (a 210), .ref (a 211), .ref (a 212), .int 4, .int 12, .int (-1), .int 0, .ref (g 200), .ref (a 213), .int 0, .int 97, .ref (a 214), .ref (a 215), .ref (a 207), .null, .int 0]))]) [0] rfl
                          have hD9 := hD.sub (ws' := [((a 200), .inr (21, [.int 1, .ref (a 201), .ref (a 202), .ref (a 203), .ref (a 204), .ref (a 205), .ref (a 206), .int 0, .int 0, .int 0, .int 0, .ref (a 208), .ref (a 209), .ref (a 210), .ref (a 211), .ref (a 212), .int 4, .int 12, .int (-1), .int 0, .ref (g 200), .ref (a 213), .int 0, .int 97, .ref (a 214), .ref (a 215), .ref (a 207), .null, .int 0]))]) [0] (by decide) rfl
                          refine W.widen (k := 0) (n := 0) (Nat.le_of_ble_eq_true rfl) (Nat.le_of_ble_eq_true rfl) ?_
                          exact W.zret (v := 0) hx hb hr rfl (fun t ht9 hW9 => ⟨⟨0, 1, rfl, (Or.inl ⟨rfl, rfl, (Or.inr (Or.inr (Or.inr (Or.inr (Or.inr (Or.inr (Or.inr (Or.inr (Or.inr (Or.inr (Or.inr (Or.inr (Or.inr (Or.inr (Or.inr (Or.inr (Or.inr (Or.inr (Or.inr (Or.inl ⟨c_126, c_139, c_140, c_152, c_153, c_155⟩))))))))))))))))))))⟩), ⟨(by rw [ht9]; exact hP9), hD9⟩⟩, hS.F ht9⟩) hS.2.2 dX15_marchFinds_145 hlocks
                    · refine lv_iload_n hx hb dX15_marchFinds_77 rfl (lv_at hl 3 rfl) ?_
                      refine lv_bipush (v := 97) hx hb dX15_marchFinds_78 (by decide) ?_
                      refine lv_icmp_eq (tgt := 93) hx hb dX15_marchFinds_80 (by decide) (fun c_158 => ?_) (fun c_158 => ?_)
                      · exact absurd (c_126.symm.trans c_158) (by decide)
                      · refine lv_iload hx hb dX15_marchFinds_83 (lv_at hl 6 rfl) ?_
                        refine lv_iconst (v := 0) hx hb dX15_marchFinds_85 (by decide) ?_
                        refine lv_iconst (v := 1) hx hb dX15_marchFinds_86 (by decide) ?_
                        have hPc : va_P D vwCl [] _ := hP.sub (ws' := []) [] rfl
                        have hDc : va_D (fun q => z0 ≤ q) [] := (hD.to hAz).pick (ws' := []) [] (by decide) rfl
                        have hFc := AnA (ws := [((a 200), f_m a g)]) hS.1
                        refine va_calli (va_runS (As := [.int p3, .int 0, .int 1]) (rest := []) ⟨hx, hb, hml, hown, ht⟩ (k_X15_isBetween_v2 l D g z0 _ a p3) (va_cwS 3 ht (gS w_369 w_371 w_334 w_370) rfl rfl rfl (by decide +kernel) (le2 rfl rfl)) ⟨PP.blind, PP.mk' hK hZ hz hAz hS hPc hDc⟩ rfl rfl hl.1 rfl (lv_room (Nat.le_of_ble_eq_true rfl)) dX15_marchFinds_87 (le2 rfl rfl)) hS (fun q _ h => hFc q h) hFc (fun r u t H locs ht1 hvm hw hB hz1 hk1 hS => ?_)
                        rcases hw with hw | hw
                        · obtain ⟨rfl, hw⟩ := hw
                          rcases hw with hw | hw
                          · have c_159 := hw
                            have hP := ro1 hP hk1
                            refine lv_if_eq (tgt := 113) hx hb dX15_marchFinds_90 (by decide) (fun c_160 => ?_) (fun c_160 => ?_)
                            · refine lv_iconst (v := 0) hx hb dX15_marchFinds_113 (by decide) ?_
                              refine lv_istore (lv' := [(8, .int 0), (7, .int 1), (6, .int 1), (0, .ref (a 200)), (1, .int p0), (2, .int p1), (3, .int p2), (4, .int p3), (5, .int p4)]) hx hb dX15_marchFinds_114 hl (by decide) rfl (fun ls hl => ?_)
                              refine lv_aload_n hx hb dX15_marchFinds_116 rfl (lv_at hl 3 rfl) ?_
                              refine lv_iload hx hb dX15_marchFinds_117 (lv_at hl 0 rfl) ?_
                              refine lv_if_ne (tgt := 126) hx hb dX15_marchFinds_119 (by decide) (fun c_161 => ?_) (fun c_161 => ?_)
                              · exact absurd c_161 (by decide)
                              · refine lv_iconst (v := 1) hx hb dX15_marchFinds_122 (by decide) ?_
                                refine lv_goto (tgt := 138) hx hb dX15_marchFinds_123 (by decide) ?_
                                have hPc : va_P D vwCl [((a 200), f_m a g)] _ := hP.sub (ws' := [((a 200), f_m a g)]) [0] rfl
                                have hDc : va_D (fun q => z0 ≤ q) [((a 200), f_m a g)] := (hD.to hAz).pick (ws' := [((a 200), f_m a g)]) [0] (by decide) rfl
                                have hFc := va_free (wc := [((a 200), f_m a g)]) hD hS hA [0] rfl
                                refine va_calli (va_runV (As := [.int 1]) (rest := []) ⟨hx, hb, hml, hown, ht⟩ (k_X15_isWrong l D g z0 _ a) (cwV 1 ht (gV w_376 w_378 w_379 w_334 w_377) rfl rfl rfl (by decide +kernel) (le2 rfl rfl)) ⟨PP.blind, va_recv hK.1 hP (ci := 21) (q0 := 0) rfl rfl, PP.mk' hK hZ hz hAz hS hPc hDc⟩ rfl rfl hl.1 rfl (lv_room (Nat.le_of_ble_eq_true rfl)) dX15_marchFinds_138 (le2 rfl rfl)) hS (fun q _ h => hFc q h) hFc (fun r u t H locs ht1 hvm hw hB hz1 hk1 hS => ?_)
                                obtain ⟨rfl, hw⟩ := hw
                                obtain ⟨hP1, hD1⟩ := hB
                                rw [ht1] at hP1
                                obtain ⟨hP, hD⟩ := va_join (wr := []) (w1 := [((a 200), .inr (21, [.int 1, .ref (a 201), .ref (a 202), .ref (a 203), .ref (a 204), .ref (a 205), .ref (a 206), .int 0, .int 0, .int 0, .int 0, .ref (a 208), .ref (a 209), .ref (a 210), .ref (a 211), .ref (a 212), .int 4, .int 12, .int (-1), .int 0, .ref (g 200), .ref (a 213), .int 0, .int 97, .ref (a 214), .ref (a 215), .ref (a 207), .null, .int 0]))]) hP hD [0] [] rfl rfl (by decide) (by decide) hk1 hFc hP1 hD1
                                have hP : va_P D vwCl [((a 200), .inr (21, [.int 1, .ref (a 201), .ref (a 202), .ref (a 203), .ref (a 204), .ref (a 205), .ref (a 206), .int 0, .int 0, .int 0, .int 0, .ref (a 208), .ref (a 209), .ref (a 210), .ref (a 211), .ref (a 212), .int 4, .int 12, .int (-1), .int 0, .ref (g 200), .ref (a 213), .int 0, .int 97, .ref (a 214), .ref (a 215), .ref (a 207), .null, .int 0]))] H := hP
                                have hD : va_D (va_A [((a 200), f_m a g)] s.heap.size) [((a 200), .inr (21, [.int 1, .ref (a 201), .ref (a 202), .ref (a 203), .ref (a 204), .ref (a 205), .ref (a 206), .int 0, .int 0, .int 0, .int 0, .ref (a 208), .ref (a 209), .ref (a 210), .ref (a 211), .ref (a 212), .int 4, .int 12, .int (-1), .int 0, .ref (g 200), .ref (a 213), .int 0, .int 97, .ref (a 214), .ref (a 215), .ref (a 207), .null, .int 0]))] := hD
                                refine lv_if_eq (tgt := 146) hx hb dX15_marchFinds_141 (by decide) (fun c_162 => ?_) (fun c_162 => ?_)
                                · exact absurd c_162 (by decide)
                                · refine lv_iconst (v := 0) hx hb dX15_marchFinds_144 (by decide) ?_
                                  have hP9 := hP.sub (ws' := [((a 200), .inr (21, [.int 1, .ref (a 201), .ref (a 202), .ref (a 203), .ref (a 204), .ref (a 205), .ref (a 206), .int 0, .int 0, .int 0, .int 0, .ref (a 208), .ref (a 209), .ref (a 210), .ref (a 211), .ref (a 212), .int 4, .int 12, .int (-1), .int 0, .ref (g 200), .ref (a 213), .int 0, .int 97, .ref (a 214), .ref (a 215), .ref (a 207), .null, .int 0]))]) [0] rfl
                                  have hD9 := hD.sub (ws' := [((a 200), .inr (21, [.int 1, .ref (a 201), .ref (a 202), .ref (a 203), .ref (a 204), .ref (a 205), .ref (a 206), .int 0, .int 0, .int 0, .int 0, .ref (a 208), .ref (a 209), .ref (a 210), .ref (a 211), .ref (a 212), .int 4, .int 12, .int (-1), .int 0, .ref (g 200), .ref (a 213), .int 0, .int 97, .ref (a 214), .ref (a 215), .ref (a 207), .null, .int 0]))]) [0] (by decide) rfl
                                  refine W.widen (k := 0) (n := 0) (Nat.le_of_ble_eq_true rfl) (Nat.le_of_ble_eq_true rfl) ?_
                                  exact W.zret (v := 0) hx hb hr rfl (fun t ht9 hW9 => ⟨⟨0, 1, rfl, (Or.inl ⟨rfl, rfl, (Or.inr (Or.inr (Or.inr (Or.inr (Or.inr (Or.inr (Or.inr (Or.inr (Or.inr (Or.inr (Or.inr (Or.inr (Or.inr (Or.inr (Or.inr (Or.inr (Or.inr (Or.inr (Or.inr (Or.inr (Or.inl ⟨c_126, c_139, c_140, c_152, c_153, c_155, c_158, c_159⟩)))))))))))))))))))))⟩), ⟨(by rw [ht9]; exact hP9), hD9⟩⟩, hS.F ht9⟩) hS.2.2 dX15_marchFinds_145 hlocks
                            · exact absurd c_160 (by decide)
                          · obtain ⟨c_163, c_164⟩ := hw
                            have hP := ro1 hP hk1
                            refine lv_if_eq (tgt := 113) hx hb dX15_marchFinds_90 (by decide) (fun c_165 => ?_) (fun c_165 => ?_)
                            · refine lv_iconst (v := 0) hx hb dX15_marchFinds_113 (by decide) ?_
                              refine lv_istore (lv' := [(8, .int 0), (7, .int 1), (6, .int 1), (0, .ref (a 200)), (1, .int p0), (2, .int p1), (3, .int p2), (4, .int p3), (5, .int p4)]) hx hb dX15_marchFinds_114 hl (by decide) rfl (fun ls hl => ?_)
                              refine lv_aload_n hx hb dX15_marchFinds_116 rfl (lv_at hl 3 rfl) ?_
                              refine lv_iload hx hb dX15_marchFinds_117 (lv_at hl 0 rfl) ?_
                              refine lv_if_ne (tgt := 126) hx hb dX15_marchFinds_119 (by decide) (fun c_166 => ?_) (fun c_166 => ?_)
                              · exact absurd c_166 (by decide)
                              · refine lv_iconst (v := 1) hx hb dX15_marchFinds_122 (by decide) ?_
                                refine lv_goto (tgt := 138) hx hb dX15_marchFinds_123 (by decide) ?_
                                have hPc : va_P D vwCl [((a 200), f_m a g)] _ := hP.sub (ws' := [((a 200), f_m a g)]) [0] rfl
                                have hDc : va_D (fun q => z0 ≤ q) [((a 200), f_m a g)] := (hD.to hAz).pick (ws' := [((a 200), f_m a g)]) [0] (by decide) rfl
                                have hFc := va_free (wc := [((a 200), f_m a g)]) hD hS hA [0] rfl
                                refine va_calli (va_runV (As := [.int 1]) (rest := []) ⟨hx, hb, hml, hown, ht⟩ (k_X15_isWrong l D g z0 _ a) (cwV 1 ht (gV w_376 w_378 w_379 w_334 w_377) rfl rfl rfl (by decide +kernel) (le2 rfl rfl)) ⟨PP.blind, va_recv hK.1 hP (ci := 21) (q0 := 0) rfl rfl, PP.mk' hK hZ hz hAz hS hPc hDc⟩ rfl rfl hl.1 rfl (lv_room (Nat.le_of_ble_eq_true rfl)) dX15_marchFinds_138 (le2 rfl rfl)) hS (fun q _ h => hFc q h) hFc (fun r u t H locs ht1 hvm hw hB hz1 hk1 hS => ?_)
                                obtain ⟨rfl, hw⟩ := hw
                                obtain ⟨hP1, hD1⟩ := hB
                                rw [ht1] at hP1
                                obtain ⟨hP, hD⟩ := va_join (wr := []) (w1 := [((a 200), .inr (21, [.int 1, .ref (a 201), .ref (a 202), .ref (a 203), .ref (a 204), .ref (a 205), .ref (a 206), .int 0, .int 0, .int 0, .int 0, .ref (a 208), .ref (a 209), .ref (a 210), .ref (a 211), .ref (a 212), .int 4, .int 12, .int (-1), .int 0, .ref (g 200), .ref (a 213), .int 0, .int 97, .ref (a 214), .ref (a 215), .ref (a 207), .null, .int 0]))]) hP hD [0] [] rfl rfl (by decide) (by decide) hk1 hFc hP1 hD1
                                have hP : va_P D vwCl [((a 200), .inr (21, [.int 1, .ref (a 201), .ref (a 202), .ref (a 203), .ref (a 204), .ref (a 205), .ref (a 206), .int 0, .int 0, .int 0, .int 0, .ref (a 208), .ref (a 209), .ref (a 210), .ref (a 211), .ref (a 212), .int 4, .int 12, .int (-1), .int 0, .ref (g 200), .ref (a 213), .int 0, .int 97, .ref (a 214), .ref (a 215), .ref (a 207), .null, .int 0]))] H := hP
                                have hD : va_D (va_A [((a 200), f_m a g)] s.heap.size) [((a 200), .inr (21, [.int 1, .ref (a 201), .ref (a 202), .ref (a 203), .ref (a 204), .ref (a 205), .ref (a 206), .int 0, .int 0, .int 0, .int 0, .ref (a 208), .ref (a 209), .ref (a 210), .ref (a 211), .ref (a 212), .int 4, .int 12, .int (-1), .int 0, .ref (g 200), .ref (a 213), .int 0, .int 97, .ref (a 214), .ref (a 215), .ref (a 207), .null, .int 0]))] := hD
                                refine lv_if_eq (tgt := 146) hx hb dX15_marchFinds_141 (by decide) (fun c_167 => ?_) (fun c_167 => ?_)
                                · exact absurd c_167 (by decide)
                                · refine lv_iconst (v := 0) hx hb dX15_marchFinds_144 (by decide) ?_
                                  have hP9 := hP.sub (ws' := [((a 200), .inr (21, [.int 1, .ref (a 201), .ref (a 202), .ref (a 203), .ref (a 204), .ref (a 205), .ref (a 206), .int 0, .int 0, .int 0, .int 0, .ref (a 208), .ref (a 209), .ref (a 210), .ref (a 211), .ref (a 212), .int 4, .int 12, .int (-1), .int 0, .ref (g 200), .ref (a 213), .int 0, .int 97, .ref (a 214), .ref (a 215), .ref (a 207), .null, .int 0]))]) [0] rfl
                                  have hD9 := hD.sub (ws' := [((a 200), .inr (21, [.int 1, .ref (a 201), .ref (a 202), .ref (a 203), .ref (a 204), .ref (a 205), .ref (a 206), .int 0, .int 0, .int 0, .int 0, .ref (a 208), .ref (a 209), .ref (a 210), .ref (a 211), .ref (a 212), .int 4, .int 12, .int (-1), .int 0, .ref (g 200), .ref (a 213), .int 0, .int 97, .ref (a 214), .ref (a 215), .ref (a 207), .null, .int 0]))]) [0] (by decide) rfl
                                  refine W.widen (k := 0) (n := 0) (Nat.le_of_ble_eq_true rfl) (Nat.le_of_ble_eq_true rfl) ?_
                                  exact W.zret (v := 0) hx hb hr rfl (fun t ht9 hW9 => ⟨⟨0, 1, rfl, (Or.inl ⟨rfl, rfl, (Or.inr (Or.inr (Or.inr (Or.inr (Or.inr (Or.inr (Or.inr (Or.inr (Or.inr (Or.inr (Or.inr (Or.inr (Or.inr (Or.inr (Or.inr (Or.inr (Or.inr (Or.inr (Or.inr (Or.inr (Or.inr (Or.inl ⟨c_126, c_139, c_140, c_152, c_153, c_155, c_158, c_163, c_164⟩))))))))))))))))))))))⟩), ⟨(by rw [ht9]; exact hP9), hD9⟩⟩, hS.F ht9⟩) hS.2.2 dX15_marchFinds_145 hlocks
                            · exact absurd c_165 (by decide)
                        · obtain ⟨rfl, hw⟩ := hw
                          obtain ⟨c_168, c_169⟩ := hw
                          have hP := ro1 hP hk1
                          refine lv_if_eq (tgt := 113) hx hb dX15_marchFinds_90 (by decide) (fun c_170 => ?_) (fun c_170 => ?_)
                          · exact absurd c_170 (by decide)
                          · refine lv_iload_n hx hb dX15_marchFinds_93 rfl (lv_at hl 3 rfl) ?_
                            refine lv_bipush (v := 99) hx hb dX15_marchFinds_94 (by decide) ?_
                            refine lv_icmp_ne (tgt := 109) hx hb dX15_marchFinds_96 (by decide) (fun c_171 => ?_) (fun c_171 => ?_)
                            · exact absurd c_126 c_171
                            · refine lv_iload hx hb dX15_marchFinds_99 (lv_at hl 7 rfl) ?_
                              refine lv_iconst (v := 0) hx hb dX15_marchFinds_101 (by decide) ?_
                              refine lv_iconst (v := 1) hx hb dX15_marchFinds_102 (by decide) ?_
                              have hPc : va_P D vwCl [] _ := hP.sub (ws' := []) [] rfl
                              have hDc : va_D (fun q => z0 ≤ q) [] := (hD.to hAz).pick (ws' := []) [] (by decide) rfl
                              have hFc := AnA (ws := [((a 200), f_m a g)]) hS.1
                              refine va_calli (va_runS (As := [.int p4, .int 0, .int 1]) (rest := []) ⟨hx, hb, hml, hown, ht⟩ (k_X15_isBetween_v2 l D g z0 _ a p4) (va_cwS 3 ht (gS w_369 w_371 w_334 w_370) rfl rfl rfl (by decide +kernel) (le2 rfl rfl)) ⟨PP.blind, PP.mk' hK hZ hz hAz hS hPc hDc⟩ rfl rfl hl.1 rfl (lv_room (Nat.le_of_ble_eq_true rfl)) dX15_marchFinds_103 (le2 rfl rfl)) hS (fun q _ h => hFc q h) hFc (fun r u t H locs ht1 hvm hw hB hz1 hk1 hS => ?_)
                              rcases hw with hw | hw
                              · obtain ⟨rfl, hw⟩ := hw
                                rcases hw with hw | hw
                                · have c_172 := hw
                                  have hP := ro1 hP hk1
                                  refine lv_if_eq (tgt := 113) hx hb dX15_marchFinds_106 (by decide) (fun c_173 => ?_) (fun c_173 => ?_)
                                  · refine lv_iconst (v := 0) hx hb dX15_marchFinds_113 (by decide) ?_
                                    refine lv_istore (lv' := [(8, .int 0), (7, .int 1), (6, .int 1), (0, .ref (a 200)), (1, .int p0), (2, .int p1), (3, .int p2), (4, .int p3), (5, .int p4)]) hx hb dX15_marchFinds_114 hl (by decide) rfl (fun ls hl => ?_)
                                    refine lv_aload_n hx hb dX15_marchFinds_116 rfl (lv_at hl 3 rfl) ?_
                                    refine lv_iload hx hb dX15_marchFinds_117 (lv_at hl 0 rfl) ?_
                                    refine lv_if_ne (tgt := 126) hx hb dX15_marchFinds_119 (by decide) (fun c_174 => ?_) (fun c_174 => ?_)
                                    · exact absurd c_174 (by decide)
                                    · refine lv_iconst (v := 1) hx hb dX15_marchFinds_122 (by decide) ?_
                                      refine lv_goto (tgt := 138) hx hb dX15_marchFinds_123 (by decide) ?_
                                      have hPc : va_P D vwCl [((a 200), f_m a g)] _ := hP.sub (ws' := [((a 200), f_m a g)]) [0] rfl
                                      have hDc : va_D (fun q => z0 ≤ q) [((a 200), f_m a g)] := (hD.to hAz).pick (ws' := [((a 200), f_m a g)]) [0] (by decide) rfl
                                      have hFc := va_free (wc := [((a 200), f_m a g)]) hD hS hA [0] rfl
                                      refine va_calli (va_runV (As := [.int 1]) (rest := []) ⟨hx, hb, hml, hown, ht⟩ (k_X15_isWrong l D g z0 _ a) (cwV 1 ht (gV w_376 w_378 w_379 w_334 w_377) rfl rfl rfl (by decide +kernel) (le2 rfl rfl)) ⟨PP.blind, va_recv hK.1 hP (ci := 21) (q0 := 0) rfl rfl, PP.mk' hK hZ hz hAz hS hPc hDc⟩ rfl rfl hl.1 rfl (lv_room (Nat.le_of_ble_eq_true rfl)) dX15_marchFinds_138 (le2 rfl rfl)) hS (fun q _ h => hFc q h) hFc (fun r u t H locs ht1 hvm hw hB hz1 hk1 hS => ?_)
                                      obtain ⟨rfl, hw⟩ := hw
                                      obtain ⟨hP1, hD1⟩ := hB
                                      rw [ht1] at hP1
                                      obtain ⟨hP, hD⟩ := va_join (wr := []) (w1 := [((a 200), .inr (21, [.int 1, .ref (a 201), .ref (a 202), .ref (a 203), .ref (a 204), .ref (a 205), .ref (a 206), .int 0, .int 0, .int 0, .int 0, .ref (a 208), .ref (a 209), .ref (a 210), .ref (a 211), .ref (a 212), .int 4, .int 12, .int (-1), .int 0, .ref (g 200), .ref (a 213), .int 0, .int 97, .ref (a 214), .ref (a 215), .ref (a 207), .null, .int 0]))]) hP hD [0] [] rfl rfl (by decide) (by decide) hk1 hFc hP1 hD1
                                      have hP : va_P D vwCl [((a 200), .inr (21, [.int 1, .ref (a 201), .ref (a 202), .ref (a 203), .ref (a 204), .ref (a 205), .ref (a 206), .int 0, .int 0, .int 0, .int 0, .ref (a 208), .ref (a 209), .ref (a 210), .ref (a 211), .ref (a 212), .int 4, .int 12, .int (-1), .int 0, .ref (g 200), .ref (a 213), .int 0, .int 97, .ref (a 214), .ref (a 215), .ref (a 207), .null, .int 0]))] H := hP
                                      have hD : va_D (va_A [((a 200), f_m a g)] s.heap.size) [((a 200), .inr (21, [.int 1, .ref (a 201), .ref (a 202), .ref (a 203), .ref (a 204), .ref (a 205), .ref (a 206), .int 0, .int 0, .int 0, .int 0, .ref (a 208), .ref (a 209), .ref (a 210), .ref (a 211), .ref (a 212), .int 4, .int 12, .int (-1), .int 0, .ref (g 200), .ref (a 213), .int 0, .int 97, .ref (a 214), .ref (a 215), .ref (a 207), .null, .int 0]))] := hD
                                      refine lv_if_eq (tgt := 146) hx hb dX15_marchFinds_141 (by decide) (fun c_175 => ?_) (fun c_175 => ?_)
                                      · exact absurd c_175 (by decide)
                                      · refine lv_iconst (v := 0) hx hb dX15_marchFinds_144 (by decide) ?_
                                        have hP9 := hP.sub (ws' := [((a 200), .inr (21, [.int 1, .ref (a 201), .ref (a 202), .ref (a 203), .ref (a 204), .ref (a 205), .ref (a 206), .int 0, .int 0, .int 0, .int 0, .ref (a 208), .ref (a 209), .ref (a 210), .ref (a 211), .ref (a 212), .int 4, .int 12, .int (-1), .int 0, .ref (g 200), .ref (a 213), .int 0, .int 97, .ref (a 214), .ref (a 215), .ref (a 207), .null, .int 0]))]) [0] rfl
                                        have hD9 := hD.sub (ws' := [((a 200), .inr (21, [.int 1, .ref (a 201), .ref (a 202), .ref (a 203), .ref (a 204), .ref (a 205), .ref (a 206), .int 0, .int 0, .int 0, .int 0, .ref (a 208), .ref (a 209), .ref (a 210), .ref (a 211), .ref (a 212), .int 4, .int 12, .int (-1), .int 0, .ref (g 200), .ref (a 213), .int 0, .int 97, .ref (a 214), .ref (a 215), .ref (a 207), .null, .int 0]))]) [0] (by decide) rfl
                                        refine W.widen (k := 0) (n := 0) (Nat.le_of_ble_eq_true rfl) (Nat.le_of_ble_eq_true rfl) ?_
                                        exact W.zret (v := 0) hx hb hr rfl (fun t ht9 hW9 => ⟨⟨0, 1, rfl, (Or.inl ⟨rfl, rfl, (Or.inr (Or.inr (Or.inr (Or.inr (Or.inr (Or.inr (Or.inr (Or.inr (Or.inr (Or.inr (Or.inr (Or.inr (Or.inr (Or.inr (Or.inr (Or.inr (Or.inr (Or.inr (Or.inr (Or.inr (Or.inr (Or.inr (Or.inl ⟨c_126, c_139, c_140, c_152, c_153, c_155, c_158, c_168, c_169, c_172⟩)))))))))))))))))))))))⟩), ⟨(by rw [ht9]; exact hP9), hD9⟩⟩, hS.F ht9⟩) hS.2.2 dX15_marchFinds_145 hlocks
                                  · exact absurd c_173 (by decide)
                                · obtain ⟨c_176, c_177⟩ := hw
                                  have hP := ro1 hP hk1
                                  refine lv_if_eq (tgt := 113) hx hb dX15_marchFinds_106 (by decide) (fun c_178 => ?_) (fun c_178 => ?_)
                                  · refine lv_iconst (v := 0) hx hb dX15_marchFinds_113 (by decide) ?_
                                    refine lv_istore (lv' := [(8, .int 0), (7, .int 1), (6, .int 1), (0, .ref (a 200)), (1, .int p0), (2, .int p1), (3, .int p2), (4, .int p3), (5, .int p4)]) hx hb dX15_marchFinds_114 hl (by decide) rfl (fun ls hl => ?_)
                                    refine lv_aload_n hx hb dX15_marchFinds_116 rfl (lv_at hl 3 rfl) ?_
                                    refine lv_iload hx hb dX15_marchFinds_117 (lv_at hl 0 rfl) ?_
                                    refine lv_if_ne (tgt := 126) hx hb dX15_marchFinds_119 (by decide) (fun c_179 => ?_) (fun c_179 => ?_)
                                    · exact absurd c_179 (by decide)
                                    · refine lv_iconst (v := 1) hx hb dX15_marchFinds_122 (by decide) ?_
                                      refine lv_goto (tgt := 138) hx hb dX15_marchFinds_123 (by decide) ?_
                                      have hPc : va_P D vwCl [((a 200), f_m a g)] _ := hP.sub (ws' := [((a 200), f_m a g)]) [0] rfl
                                      have hDc : va_D (fun q => z0 ≤ q) [((a 200), f_m a g)] := (hD.to hAz).pick (ws' := [((a 200), f_m a g)]) [0] (by decide) rfl
                                      have hFc := va_free (wc := [((a 200), f_m a g)]) hD hS hA [0] rfl
                                      refine va_calli (va_runV (As := [.int 1]) (rest := []) ⟨hx, hb, hml, hown, ht⟩ (k_X15_isWrong l D g z0 _ a) (cwV 1 ht (gV w_376 w_378 w_379 w_334 w_377) rfl rfl rfl (by decide +kernel) (le2 rfl rfl)) ⟨PP.blind, va_recv hK.1 hP (ci := 21) (q0 := 0) rfl rfl, PP.mk' hK hZ hz hAz hS hPc hDc⟩ rfl rfl hl.1 rfl (lv_room (Nat.le_of_ble_eq_true rfl)) dX15_marchFinds_138 (le2 rfl rfl)) hS (fun q _ h => hFc q h) hFc (fun r u t H locs ht1 hvm hw hB hz1 hk1 hS => ?_)
                                      obtain ⟨rfl, hw⟩ := hw
                                      obtain ⟨hP1, hD1⟩ := hB
                                      rw [ht1] at hP1
                                      obtain ⟨hP, hD⟩ := va_join (wr := []) (w1 := [((a 200), .inr (21, [.int 1, .ref (a 201), .ref (a 202), .ref (a 203), .ref (a 204), .ref (a 205), .ref (a 206), .int 0, .int 0, .int 0, .int 0, .ref (a 208), .ref (a 209), .ref (a 210), .ref (a 211), .ref (a 212), .int 4, .int 12, .int (-1), .int 0, .ref (g 200), .ref (a 213), .int 0, .int 97, .ref (a 214), .ref (a 215), .ref (a 207), .null, .int 0]))]) hP hD [0] [] rfl rfl (by decide) (by decide) hk1 hFc hP1 hD1
                                      have hP : va_P D vwCl [((a 200), .inr (21, [.int 1, .ref (a 201), .ref (a 202), .ref (a 203), .ref (a 204), .ref (a 205), .ref (a 206), .int 0, .int 0, .int 0, .int 0, .ref (a 208), .ref (a 209), .ref (a 210), .ref (a 211), .ref (a 212), .int 4, .int 12, .int (-1), .int 0, .ref (g 200), .ref (a 213), .int 0, .int 97, .ref (a 214), .ref (a 215), .ref (a 207), .null, .int 0]))] H := hP
                                      have hD : va_D (va_A [((a 200), f_m a g)] s.heap.size) [((a 200), .inr (21, [.int 1, .ref (a 201), .ref (a 202), .ref (a 203), .ref (a 204), .ref (a 205), .ref (a 206), .int 0, .int 0, .int 0, .int 0, .ref (a 208), .ref (a 209), .ref (a 210), .ref (a 211), .ref (a 212), .int 4, .int 12, .int (-1), .int 0, .ref (g 200), .ref (a 213), .int 0, .int 97, .ref (a 214), .ref (a 215), .ref (a 207), .null, .int 0]))] := hD
                                      refine lv_if_eq (tgt := 146) hx hb dX15_marchFinds_141 (by decide) (fun c_180 => ?_) (fun c_180 => ?_)
                                      · exact absurd c_180 (by decide)
                                      · refine lv_iconst (v := 0) hx hb dX15_marchFinds_144 (by decide) ?_
                                        have hP9 := hP.sub (ws' := [((a 200), .inr (21, [.int 1, .ref (a 201), .ref (a 202), .ref (a 203), .ref (a 204), .ref (a 205), .ref (a 206), .int 0, .int 0, .int 0, .int 0, .ref (a 208), .ref (a 209), .ref (a 210), .ref (a 211), .ref (a 212), .int 4, .int 12, .int (-1), .int 0, .ref (g 200), .ref (a 213), .int 0, .int 97, .ref (a 214), .ref (a 215), .ref (a 207), .null, .int 0]))]) [0] rfl
                                        have hD9 := hD.sub (ws' := [((a 200), .inr (21, [.int 1, .ref (a 201), .ref (a 202), .ref (a 203), .ref (a 204), .ref (a 205), .ref (a 206), .int 0, .int 0, .int 0, .int 0, .ref (a 208), .ref (a 209), .ref (a 210), .ref (a 211), .ref (a 212), .int 4, .int 12, .int (-1), .int 0, .ref (g 200), .ref (a 213), .int 0, .int 97, .ref (a 214), .ref (a 215), .ref (a 207), .null, .int 0]))]) [0] (by decide) rfl
                                        refine W.widen (k := 0) (n := 0) (Nat.le_of_ble_eq_true rfl) (Nat.le_of_ble_eq_true rfl) ?_
                                        exact W.zret (v := 0) hx hb hr rfl (fun t ht9 hW9 => ⟨⟨0, 1, rfl, (Or.inl ⟨rfl, rfl, (Or.inr (Or.inr (Or.inr (Or.inr (Or.inr (Or.inr (Or.inr (Or.inr (Or.inr (Or.inr (Or.inr (Or.inr (Or.inr (Or.inr (Or.inr (Or.inr (Or.inr (Or.inr (Or.inr (Or.inr (Or.inr (Or.inr (Or.inr (Or.inl ⟨c_126, c_139, c_140, c_152, c_153, c_155, c_158, c_168, c_169, c_176, c_177⟩))))))))))))))))))))))))⟩), ⟨(by rw [ht9]; exact hP9), hD9⟩⟩, hS.F ht9⟩) hS.2.2 dX15_marchFinds_145 hlocks
                                  · exact absurd c_178 (by decide)
                              · obtain ⟨rfl, hw⟩ := hw
                                obtain ⟨c_181, c_182⟩ := hw
                                have hP := ro1 hP hk1
                                refine lv_if_eq (tgt := 113) hx hb dX15_marchFinds_106 (by decide) (fun c_183 => ?_) (fun c_183 => ?_)
                                · exact absurd c_183 (by decide)
                                · refine lv_iconst (v := 1) hx hb dX15_marchFinds_109 (by decide) ?_
                                  refine lv_goto (tgt := 114) hx hb dX15_marchFinds_110 (by decide) ?_
                                  refine lv_istore (lv' := [(8, .int 1), (7, .int 1), (6, .int 1), (0, .ref (a 200)), (1, .int p0), (2, .int p1), (3, .int p2), (4, .int p3), (5, .int p4)]) hx hb dX15_marchFinds_114 hl (by decide) rfl (fun ls hl => ?_)
                                  refine lv_aload_n hx hb dX15_marchFinds_116 rfl (lv_at hl 3 rfl) ?_
                                  refine lv_iload hx hb dX15_marchFinds_117 (lv_at hl 0 rfl) ?_
                                  refine lv_if_ne (tgt := 126) hx hb dX15_marchFinds_119 (by decide) (fun c_184 => ?_) (fun c_184 => ?_)
                                  · refine lv_aload_n hx hb dX15_marchFinds_126 rfl (lv_at hl 3 rfl) ?_
                                    have hPc : va_P D vwCl [((a 200), f_m a g)] _ := hP.sub (ws' := [((a 200), f_m a g)]) [0] rfl
                                    have hDc : va_D (fun q => z0 ≤ q) [((a 200), f_m a g)] := (hD.to hAz).pick (ws' := [((a 200), f_m a g)]) [0] (by decide) rfl
                                    have hFc := AnA (ws := [((a 200), f_m a g)]) hS.1
                                    refine va_calli (va_runV (As := []) (rest := [.ref (a 200)]) ⟨hx, hb, hml, hown, ht⟩ (k_X15_isRightNow l D g z0 _ a) (cwV 0 ht (gV w_514 w_516 w_517 w_334 w_515) rfl rfl rfl (by decide +kernel) (le2 rfl rfl)) ⟨PP.blind, va_recv hK.1 hP (ci := 21) (q0 := 0) rfl rfl, PP.mk' hK hZ hz hAz hS hPc hDc⟩ rfl rfl hl.1 rfl (lv_room (Nat.le_of_ble_eq_true rfl)) dX15_marchFinds_127 (le2 rfl rfl)) hS (fun q _ h => hFc q h) hFc (fun r u t H locs ht1 hvm hw hB hz1 hk1 hS => ?_)
                                    obtain ⟨rfl, hw⟩ := hw
                                    have hP := ro1 hP hk1
                                    refine lv_if_ne (tgt := 137) hx hb dX15_marchFinds_130 (by decide) (fun c_185 => ?_) (fun c_185 => ?_)
                                    · exact absurd c_185 (by decide)
                                    · refine lv_iconst (v := 2) hx hb dX15_marchFinds_133 (by decide) ?_
                                      refine lv_goto (tgt := 138) hx hb dX15_marchFinds_134 (by decide) ?_
                                      have hPc : va_P D vwCl [((a 200), f_m a g)] _ := hP.sub (ws' := [((a 200), f_m a g)]) [0] rfl
                                      have hDc : va_D (fun q => z0 ≤ q) [((a 200), f_m a g)] := (hD.to hAz).pick (ws' := [((a 200), f_m a g)]) [0] (by decide) rfl
                                      have hFc := va_free (wc := [((a 200), f_m a g)]) hD hS hA [0] rfl
                                      refine va_calli (va_runV (As := [.int 2]) (rest := []) ⟨hx, hb, hml, hown, ht⟩ (k_X15_isWrong_v2 l D g z0 _ a) (cwV 1 ht (gV w_376 w_378 w_379 w_334 w_377) rfl rfl rfl (by decide +kernel) (le2 rfl rfl)) ⟨PP.blind, va_recv hK.1 hP (ci := 21) (q0 := 0) rfl rfl, PP.mk' hK hZ hz hAz hS hPc hDc⟩ rfl rfl hl.1 rfl (lv_room (Nat.le_of_ble_eq_true rfl)) dX15_marchFinds_138 (le2 rfl rfl)) hS (fun q _ h => hFc q h) hFc (fun r u t H locs ht1 hvm hw hB hz1 hk1 hS => ?_)
                                      obtain ⟨rfl, hw⟩ := hw
                                      obtain ⟨hP1, hD1⟩ := hB
                                      rw [ht1] at hP1
                                      obtain ⟨hP, hD⟩ := va_join (wr := []) (w1 := [((a 200), .inr (21, [.int 2, .ref (a 201), .ref (a 202), .ref (a 203), .ref (a 204), .ref (a 205), .ref (a 206), .int 0, .int 0, .int 0, .int 0, .ref (a 208), .ref (a 209), .ref (a 210), .ref (a 211), .ref (a 212), .int 4, .int 12, .int (-1), .int 0, .ref (g 200), .ref (a 213), .int 0, .int 97, .ref (a 214), .ref (a 215), .ref (a 207), .null, .int 0]))]) hP hD [0] [] rfl rfl (by decide) (by decide) hk1 hFc hP1 hD1
                                      have hP : va_P D vwCl [((a 200), .inr (21, [.int 2, .ref (a 201), .ref (a 202), .ref (a 203), .ref (a 204), .ref (a 205), .ref (a 206), .int 0, .int 0, .int 0, .int 0, .ref (a 208), .ref (a 209), .ref (a 210), .ref (a 211), .ref (a 212), .int 4, .int 12, .int (-1), .int 0, .ref (g 200), .ref (a 213), .int 0, .int 97, .ref (a 214), .ref (a 215), .ref (a 207), .null, .int 0]))] H := hP
                                      have hD : va_D (va_A [((a 200), f_m a g)] s.heap.size) [((a 200), .inr (21, [.int 2, .ref (a 201), .ref (a 202), .ref (a 203), .ref (a 204), .ref (a 205), .ref (a 206), .int 0, .int 0, .int 0, .int 0, .ref (a 208), .ref (a 209), .ref (a 210), .ref (a 211), .ref (a 212), .int 4, .int 12, .int (-1), .int 0, .ref (g 200), .ref (a 213), .int 0, .int 97, .ref (a 214), .ref (a 215), .ref (a 207), .null, .int 0]))] := hD
                                      refine lv_if_eq (tgt := 146) hx hb dX15_marchFinds_141 (by decide) (fun c_186 => ?_) (fun c_186 => ?_)
                                      · exact absurd c_186 (by decide)
                                      · refine lv_iconst (v := 0) hx hb dX15_marchFinds_144 (by decide) ?_
                                        have hP9 := hP.sub (ws' := [((a 200), .inr (21, [.int 2, .ref (a 201), .ref (a 202), .ref (a 203), .ref (a 204), .ref (a 205), .ref (a 206), .int 0, .int 0, .int 0, .int 0, .ref (a 208), .ref (a 209), .ref (a 210), .ref (a 211), .ref (a 212), .int 4, .int 12, .int (-1), .int 0, .ref (g 200), .ref (a 213), .int 0, .int 97, .ref (a 214), .ref (a 215), .ref (a 207), .null, .int 0]))]) [0] rfl
                                        have hD9 := hD.sub (ws' := [((a 200), .inr (21, [.int 2, .ref (a 201), .ref (a 202), .ref (a 203), .ref (a 204), .ref (a 205), .ref (a 206), .int 0, .int 0, .int 0, .int 0, .ref (a 208), .ref (a 209), .ref (a 210), .ref (a 211), .ref (a 212), .int 4, .int 12, .int (-1), .int 0, .ref (g 200), .ref (a 213), .int 0, .int 97, .ref (a 214), .ref (a 215), .ref (a 207), .null, .int 0]))]) [0] (by decide) rfl
                                        refine W.widen (k := 0) (n := 0) (Nat.le_of_ble_eq_true rfl) (Nat.le_of_ble_eq_true rfl) ?_
                                        exact W.zret (v := 0) hx hb hr rfl (fun t ht9 hW9 => ⟨⟨0, 2, rfl, (Or.inr ⟨rfl, rfl, (Or.inr (Or.inr (Or.inl ⟨c_126, c_139, c_140, c_152, c_153, c_155, c_158, c_168, c_169, c_181, c_182⟩)))⟩), ⟨(by rw [ht9]; exact hP9), hD9⟩⟩, hS.F ht9⟩) hS.2.2 dX15_marchFinds_145 hlocks
                                  · exact absurd c_184 (by decide)
      · exact absurd c_126 c_128
  · obtain ⟨rfl, hw⟩ := hw
    have c_187 := hw
    have hP := ro1 hP hk1
    refine lv_if_lt (tgt := 14) hx hb dX15_marchFinds_7 (by decide) (fun c_188 => ?_) (fun c_188 => ?_)
    · exact absurd c_188 (by decide)
    · refine lv_iconst (v := 1) hx hb dX15_marchFinds_10 (by decide) ?_
      refine lv_goto (tgt := 15) hx hb dX15_marchFinds_11 (by decide) ?_
      refine lv_istore (lv' := [(6, .int 1), (0, .ref (a 200)), (1, .int p0), (2, .int p1), (3, .int p2), (4, .int p3), (5, .int p4)]) hx hb dX15_marchFinds_15 hl (by decide) rfl (fun ls hl => ?_)
      refine lv_iload_n hx hb dX15_marchFinds_17 rfl (lv_at hl 2 rfl) ?_
      refine lv_bipush (v := 99) hx hb dX15_marchFinds_18 (by decide) ?_
      refine lv_icmp_eq (tgt := 35) hx hb dX15_marchFinds_20 (by decide) (fun c_189 => ?_) (fun c_189 => ?_)
      · exact absurd (c_187.symm.trans c_189) (by decide)
      · refine lv_iload_n hx hb dX15_marchFinds_23 rfl (lv_at hl 2 rfl) ?_
        refine lv_bipush (v := 105) hx hb dX15_marchFinds_24 (by decide) ?_
        refine lv_icmp_eq (tgt := 35) hx hb dX15_marchFinds_26 (by decide) (fun c_190 => ?_) (fun c_190 => ?_)
        · exact absurd (c_187.symm.trans c_190) (by decide)
        · refine lv_iload_n hx hb dX15_marchFinds_29 rfl (lv_at hl 2 rfl) ?_
          refine lv_bipush (v := 97) hx hb dX15_marchFinds_30 (by decide) ?_
          refine lv_icmp_ne (tgt := 39) hx hb dX15_marchFinds_32 (by decide) (fun c_191 => ?_) (fun c_191 => ?_)
          · refine lv_iconst (v := 0) hx hb dX15_marchFinds_39 (by decide) ?_
            refine lv_istore (lv' := [(7, .int 0), (6, .int 1), (0, .ref (a 200)), (1, .int p0), (2, .int p1), (3, .int p2), (4, .int p3), (5, .int p4)]) hx hb dX15_marchFinds_40 hl (by decide) rfl (fun ls hl => ?_)
            refine lv_iload hx hb dX15_marchFinds_42 (lv_at hl 1 rfl) ?_
            refine lv_if_eq (tgt := 113) hx hb dX15_marchFinds_44 (by decide) (fun c_192 => ?_) (fun c_192 => ?_)
            · exact absurd c_192 (by decide)
            · refine lv_iload_n hx hb dX15_marchFinds_47 rfl (lv_at hl 4 rfl) ?_
              refine lv_iconst (v := 0) hx hb dX15_marchFinds_48 (by decide) ?_
              refine lv_bipush (v := 7) hx hb dX15_marchFinds_49 (by decide) ?_
              have hPc : va_P D vwCl [] _ := hP.sub (ws' := []) [] rfl
              have hDc : va_D (fun q => z0 ≤ q) [] := (hD.to hAz).pick (ws' := []) [] (by decide) rfl
              have hFc := AnA (ws := [((a 200), f_m a g)]) hS.1
              refine va_calli (va_runS (As := [.int p1, .int 0, .int 7]) (rest := []) ⟨hx, hb, hml, hown, ht⟩ (k_X15_isBetween_v9 l D g z0 _ a p1) (va_cwS 3 ht (gS w_369 w_371 w_334 w_370) rfl rfl rfl (by decide +kernel) (le2 rfl rfl)) ⟨PP.blind, PP.mk' hK hZ hz hAz hS hPc hDc⟩ rfl rfl hl.1 rfl (lv_room (Nat.le_of_ble_eq_true rfl)) dX15_marchFinds_51 (le2 rfl rfl)) hS (fun q _ h => hFc q h) hFc (fun r u t H locs ht1 hvm hw hB hz1 hk1 hS => ?_)
              rcases hw with hw | hw
              · obtain ⟨rfl, hw⟩ := hw
                rcases hw with hw | hw
                · have c_193 := hw
                  have hP := ro1 hP hk1
                  refine lv_if_eq (tgt := 113) hx hb dX15_marchFinds_54 (by decide) (fun c_194 => ?_) (fun c_194 => ?_)
                  · refine lv_iconst (v := 0) hx hb dX15_marchFinds_113 (by decide) ?_
                    refine lv_istore (lv' := [(8, .int 0), (7, .int 0), (6, .int 1), (0, .ref (a 200)), (1, .int p0), (2, .int p1), (3, .int p2), (4, .int p3), (5, .int p4)]) hx hb dX15_marchFinds_114 hl (by decide) rfl (fun ls hl => ?_)
                    refine lv_aload_n hx hb dX15_marchFinds_116 rfl (lv_at hl 3 rfl) ?_
                    refine lv_iload hx hb dX15_marchFinds_117 (lv_at hl 0 rfl) ?_
                    refine lv_if_ne (tgt := 126) hx hb dX15_marchFinds_119 (by decide) (fun c_195 => ?_) (fun c_195 => ?_)
                    · exact absurd c_195 (by decide)
                    · refine lv_iconst (v := 1) hx hb dX15_marchFinds_122 (by decide) ?_
                      refine lv_goto (tgt := 138) hx hb dX15_marchFinds_123 (by decide) ?_
                      have hPc : va_P D vwCl [((a 200), f_m a g)] _ := hP.sub (ws' := [((a 200), f_m a g)]) [0] rfl
                      have hDc : va_D (fun q => z0 ≤ q) [((a 200), f_m a g)] := (hD.to hAz).pick (ws' := [((a 200), f_m a g)]) [0] (by decide) rfl
                      have hFc := va_free (wc := [((a 200), f_m a g)]) hD hS hA [0] rfl
                      refine va_calli (va_runV (As := [.int 1]) (rest := []) ⟨hx, hb, hml, hown, ht⟩ (k_X15_isWrong l D g z0 _ a) (cwV 1 ht (gV w_376 w_378 w_379 w_334 w_377) rfl rfl rfl (by decide +kernel) (le2 rfl rfl)) ⟨PP.blind, va_recv hK.1 hP (ci := 21) (q0 := 0) rfl rfl, PP.mk' hK hZ hz hAz hS hPc hDc⟩ rfl rfl hl.1 rfl (lv_room (Nat.le_of_ble_eq_true rfl)) dX15_marchFinds_138 (le2 rfl rfl)) hS (fun q _ h => hFc q h) hFc (fun r u t H locs ht1 hvm hw hB hz1 hk1 hS => ?_)
                      obtain ⟨rfl, hw⟩ := hw
                      obtain ⟨hP1, hD1⟩ := hB
                      rw [ht1] at hP1
                      obtain ⟨hP, hD⟩ := va_join (wr := []) (w1 := [((a 200), .inr (21, [.int 1, .ref (a 201), .ref (a 202), .ref (a 203), .ref (a 204), .ref (a 205), .ref (a 206), .int 0, .int 0, .int 0, .int 0, .ref (a 208), .ref (a 209), .ref (a 210), .ref (a 211), .ref (a 212), .int 4, .int 12, .int (-1), .int 0, .ref (g 200), .ref (a 213), .int 0, .int 97, .ref (a 214), .ref (a 215), .ref (a 207), .null, .int 0]))]) hP hD [0] [] rfl rfl (by decide) (by decide) hk1 hFc hP1 hD1
                      have hP : va_P D vwCl [((a 200), .inr (21, [.int 1, .ref (a 201), .ref (a 202), .ref (a 203), .ref (a 204), .ref (a 205), .ref (a 206), .int 0, .int 0, .int 0, .int 0, .ref (a 208), .ref (a 209), .ref (a 210), .ref (a 211), .ref (a 212), .int 4, .int 12, .int (-1), .int 0, .ref (g 200), .ref (a 213), .int 0, .int 97, .ref (a 214), .ref (a 215), .ref (a 207), .null, .int 0]))] H := hP
                      have hD : va_D (va_A [((a 200), f_m a g)] s.heap.size) [((a 200), .inr (21, [.int 1, .ref (a 201), .ref (a 202), .ref (a 203), .ref (a 204), .ref (a 205), .ref (a 206), .int 0, .int 0, .int 0, .int 0, .ref (a 208), .ref (a 209), .ref (a 210), .ref (a 211), .ref (a 212), .int 4, .int 12, .int (-1), .int 0, .ref (g 200), .ref (a 213), .int 0, .int 97, .ref (a 214), .ref (a 215), .ref (a 207), .null, .int 0]))] := hD
                      refine lv_if_eq (tgt := 146) hx hb dX15_marchFinds_141 (by decide) (fun c_196 => ?_) (fun c_196 => ?_)
                      · exact absurd c_196 (by decide)
                      · refine lv_iconst (v := 0) hx hb dX15_marchFinds_144 (by decide) ?_
                        have hP9 := hP.sub (ws' := [((a 200), .inr (21, [.int 1, .ref (a 201), .ref (a 202), .ref (a 203), .ref (a 204), .ref (a 205), .ref (a 206), .int 0, .int 0, .int 0, .int 0, .ref (a 208), .ref (a 209), .ref (a 210), .ref (a 211), .ref (a 212), .int 4, .int 12, .int (-1), .int 0, .ref (g 200), .ref (a 213), .int 0, .int 97, .ref (a 214), .ref (a 215), .ref (a 207), .null, .int 0]))]) [0] rfl
                        have hD9 := hD.sub (ws' := [((a 200), .inr (21, [.int 1, .ref (a 201), .ref (a 202), .ref (a 203), .ref (a 204), .ref (a 205), .ref (a 206), .int 0, .int 0, .int 0, .int 0, .ref (a 208), .ref (a 209), .ref (a 210), .ref (a 211), .ref (a 212), .int 4, .int 12, .int (-1), .int 0, .ref (g 200), .ref (a 213), .int 0, .int 97, .ref (a 214), .ref (a 215), .ref (a 207), .null, .int 0]))]) [0] (by decide) rfl
                        refine W.widen (k := 0) (n := 0) (Nat.le_of_ble_eq_true rfl) (Nat.le_of_ble_eq_true rfl) ?_
                        exact W.zret (v := 0) hx hb hr rfl (fun t ht9 hW9 => ⟨⟨0, 1, rfl, (Or.inl ⟨rfl, rfl, (Or.inr (Or.inr (Or.inr (Or.inr (Or.inr (Or.inr (Or.inr (Or.inr (Or.inr (Or.inr (Or.inr (Or.inr (Or.inr (Or.inr (Or.inr (Or.inr (Or.inr (Or.inr (Or.inr (Or.inr (Or.inr (Or.inr (Or.inr (Or.inr (Or.inl ⟨c_187, c_189, c_190, c_191, c_193⟩)))))))))))))))))))))))))⟩), ⟨(by rw [ht9]; exact hP9), hD9⟩⟩, hS.F ht9⟩) hS.2.2 dX15_marchFinds_145 hlocks
                  · exact absurd c_194 (by decide)
                · obtain ⟨c_197, c_198⟩ := hw
                  have hP := ro1 hP hk1
                  refine lv_if_eq (tgt := 113) hx hb dX15_marchFinds_54 (by decide) (fun c_199 => ?_) (fun c_199 => ?_)
                  · refine lv_iconst (v := 0) hx hb dX15_marchFinds_113 (by decide) ?_
                    refine lv_istore (lv' := [(8, .int 0), (7, .int 0), (6, .int 1), (0, .ref (a 200)), (1, .int p0), (2, .int p1), (3, .int p2), (4, .int p3), (5, .int p4)]) hx hb dX15_marchFinds_114 hl (by decide) rfl (fun ls hl => ?_)
                    refine lv_aload_n hx hb dX15_marchFinds_116 rfl (lv_at hl 3 rfl) ?_
                    refine lv_iload hx hb dX15_marchFinds_117 (lv_at hl 0 rfl) ?_
                    refine lv_if_ne (tgt := 126) hx hb dX15_marchFinds_119 (by decide) (fun c_200 => ?_) (fun c_200 => ?_)
                    · exact absurd c_200 (by decide)
                    · refine lv_iconst (v := 1) hx hb dX15_marchFinds_122 (by decide) ?_
                      refine lv_goto (tgt := 138) hx hb dX15_marchFinds_123 (by decide) ?_
                      have hPc : va_P D vwCl [((a 200), f_m a g)] _ := hP.sub (ws' := [((a 200), f_m a g)]) [0] rfl
                      have hDc : va_D (fun q => z0 ≤ q) [((a 200), f_m a g)] := (hD.to hAz).pick (ws' := [((a 200), f_m a g)]) [0] (by decide) rfl
                      have hFc := va_free (wc := [((a 200), f_m a g)]) hD hS hA [0] rfl
                      refine va_calli (va_runV (As := [.int 1]) (rest := []) ⟨hx, hb, hml, hown, ht⟩ (k_X15_isWrong l D g z0 _ a) (cwV 1 ht (gV w_376 w_378 w_379 w_334 w_377) rfl rfl rfl (by decide +kernel) (le2 rfl rfl)) ⟨PP.blind, va_recv hK.1 hP (ci := 21) (q0 := 0) rfl rfl, PP.mk' hK hZ hz hAz hS hPc hDc⟩ rfl rfl hl.1 rfl (lv_room (Nat.le_of_ble_eq_true rfl)) dX15_marchFinds_138 (le2 rfl rfl)) hS (fun q _ h => hFc q h) hFc (fun r u t H locs ht1 hvm hw hB hz1 hk1 hS => ?_)
                      obtain ⟨rfl, hw⟩ := hw
                      obtain ⟨hP1, hD1⟩ := hB
                      rw [ht1] at hP1
                      obtain ⟨hP, hD⟩ := va_join (wr := []) (w1 := [((a 200), .inr (21, [.int 1, .ref (a 201), .ref (a 202), .ref (a 203), .ref (a 204), .ref (a 205), .ref (a 206), .int 0, .int 0, .int 0, .int 0, .ref (a 208), .ref (a 209), .ref (a 210), .ref (a 211), .ref (a 212), .int 4, .int 12, .int (-1), .int 0, .ref (g 200), .ref (a 213), .int 0, .int 97, .ref (a 214), .ref (a 215), .ref (a 207), .null, .int 0]))]) hP hD [0] [] rfl rfl (by decide) (by decide) hk1 hFc hP1 hD1
                      have hP : va_P D vwCl [((a 200), .inr (21, [.int 1, .ref (a 201), .ref (a 202), .ref (a 203), .ref (a 204), .ref (a 205), .ref (a 206), .int 0, .int 0, .int 0, .int 0, .ref (a 208), .ref (a 209), .ref (a 210), .ref (a 211), .ref (a 212), .int 4, .int 12, .int (-1), .int 0, .ref (g 200), .ref (a 213), .int 0, .int 97, .ref (a 214), .ref (a 215), .ref (a 207), .null, .int 0]))] H := hP
                      have hD : va_D (va_A [((a 200), f_m a g)] s.heap.size) [((a 200), .inr (21, [.int 1, .ref (a 201), .ref (a 202), .ref (a 203), .ref (a 204), .ref (a 205), .ref (a 206), .int 0, .int 0, .int 0, .int 0, .ref (a 208), .ref (a 209), .ref (a 210), .ref (a 211), .ref (a 212), .int 4, .int 12, .int (-1), .int 0, .ref (g 200), .ref (a 213), .int 0, .int 97, .ref (a 214), .ref (a 215), .ref (a 207), .null, .int 0]))] := hD
                      refine lv_if_eq (tgt := 146) hx hb dX15_marchFinds_141 (by decide) (fun c_201 => ?_) (fun c_201 => ?_)
                      · exact absurd c_201 (by decide)
                      · refine lv_iconst (v := 0) hx hb dX15_marchFinds_144 (by decide) ?_
                        have hP9 := hP.sub (ws' := [((a 200), .inr (21, [.int 1, .ref (a 201), .ref (a 202), .ref (a 203), .ref (a 204), .ref (a 205), .ref (a 206), .int 0, .int 0, .int 0, .int 0, .ref (a 208), .ref (a 209), .ref (a 210), .ref (a 211), .ref (a 212), .int 4, .int 12, .int (-1), .int 0, .ref (g 200), .ref (a 213), .int 0, .int 97, .ref (a 214), .ref (a 215), .ref (a 207), .null, .int 0]))]) [0] rfl
                        have hD9 := hD.sub (ws' := [((a 200), .inr (21, [.int 1, .ref (a 201), .ref (a 202), .ref (a 203), .ref (a 204), .ref (a 205), .ref (a 206), .int 0, .int 0, .int 0, .int 0, .ref (a 208), .ref (a 209), .ref (a 210), .ref (a 211), .ref (a 212), .int 4, .int 12, .int (-1), .int 0, .ref (g 200), .ref (a 213), .int 0, .int 97, .ref (a 214), .ref (a 215), .ref (a 207), .null, .int 0]))]) [0] (by decide) rfl
                        refine W.widen (k := 0) (n := 0) (Nat.le_of_ble_eq_true rfl) (Nat.le_of_ble_eq_true rfl) ?_
                        exact W.zret (v := 0) hx hb hr rfl (fun t ht9 hW9 => ⟨⟨0, 1, rfl, (Or.inl ⟨rfl, rfl, (Or.inr (Or.inr (Or.inr (Or.inr (Or.inr (Or.inr (Or.inr (Or.inr (Or.inr (Or.inr (Or.inr (Or.inr (Or.inr (Or.inr (Or.inr (Or.inr (Or.inr (Or.inr (Or.inr (Or.inr (Or.inr (Or.inr (Or.inr (Or.inr (Or.inr (Or.inl ⟨c_187, c_189, c_190, c_191, c_197, c_198⟩))))))))))))))))))))))))))⟩), ⟨(by rw [ht9]; exact hP9), hD9⟩⟩, hS.F ht9⟩) hS.2.2 dX15_marchFinds_145 hlocks
                  · exact absurd c_199 (by decide)
              · obtain ⟨rfl, hw⟩ := hw
                obtain ⟨c_202, c_203⟩ := hw
                have hP := ro1 hP hk1
                refine lv_if_eq (tgt := 113) hx hb dX15_marchFinds_54 (by decide) (fun c_204 => ?_) (fun c_204 => ?_)
                · exact absurd c_204 (by decide)
                · refine lv_iload hx hb dX15_marchFinds_57 (lv_at hl 0 rfl) ?_
                  refine lv_if_eq (tgt := 77) hx hb dX15_marchFinds_59 (by decide) (fun c_205 => ?_) (fun c_205 => ?_)
                  · refine lv_iload_n hx hb dX15_marchFinds_77 rfl (lv_at hl 3 rfl) ?_
                    refine lv_bipush (v := 97) hx hb dX15_marchFinds_78 (by decide) ?_
                    refine lv_icmp_eq (tgt := 93) hx hb dX15_marchFinds_80 (by decide) (fun c_206 => ?_) (fun c_206 => ?_)
                    · exact absurd (c_187.symm.trans c_206) (by decide)
                    · refine lv_iload hx hb dX15_marchFinds_83 (lv_at hl 6 rfl) ?_
                      refine lv_iconst (v := 0) hx hb dX15_marchFinds_85 (by decide) ?_
                      refine lv_iconst (v := 1) hx hb dX15_marchFinds_86 (by decide) ?_
                      have hPc : va_P D vwCl [] _ := hP.sub (ws' := []) [] rfl
                      have hDc : va_D (fun q => z0 ≤ q) [] := (hD.to hAz).pick (ws' := []) [] (by decide) rfl
                      have hFc := AnA (ws := [((a 200), f_m a g)]) hS.1
                      refine va_calli (va_runS (As := [.int p3, .int 0, .int 1]) (rest := []) ⟨hx, hb, hml, hown, ht⟩ (k_X15_isBetween_v2 l D g z0 _ a p3) (va_cwS 3 ht (gS w_369 w_371 w_334 w_370) rfl rfl rfl (by decide +kernel) (le2 rfl rfl)) ⟨PP.blind, PP.mk' hK hZ hz hAz hS hPc hDc⟩ rfl rfl hl.1 rfl (lv_room (Nat.le_of_ble_eq_true rfl)) dX15_marchFinds_87 (le2 rfl rfl)) hS (fun q _ h => hFc q h) hFc (fun r u t H locs ht1 hvm hw hB hz1 hk1 hS => ?_)
                      rcases hw with hw | hw
                      · obtain ⟨rfl, hw⟩ := hw
                        rcases hw with hw | hw
                        · have c_207 := hw
                          have hP := ro1 hP hk1
                          refine lv_if_eq (tgt := 113) hx hb dX15_marchFinds_90 (by decide) (fun c_208 => ?_) (fun c_208 => ?_)
                          · refine lv_iconst (v := 0) hx hb dX15_marchFinds_113 (by decide) ?_
                            refine lv_istore (lv' := [(8, .int 0), (7, .int 0), (6, .int 1), (0, .ref (a 200)), (1, .int p0), (2, .int p1), (3, .int p2), (4, .int p3), (5, .int p4)]) hx hb dX15_marchFinds_114 hl (by decide) rfl (fun ls hl => ?_)
                            refine lv_aload_n hx hb dX15_marchFinds_116 rfl (lv_at hl 3 rfl) ?_
                            refine lv_iload hx hb dX15_marchFinds_117 (lv_at hl 0 rfl) ?_
                            refine lv_if_ne (tgt := 126) hx hb dX15_marchFinds_119 (by decide) (fun c_209 => ?_) (fun c_209 => ?_)
                            · exact absurd c_209 (by decide)
                            · refine lv_iconst (v := 1) hx hb dX15_marchFinds_122 (by decide) ?_
                              refine lv_goto (tgt := 138) hx hb dX15_marchFinds_123 (by decide) ?_
                              have hPc : va_P D vwCl [((a 200), f_m a g)] _ := hP.sub (ws' := [((a 200), f_m a g)]) [0] rfl
                              have hDc : va_D (fun q => z0 ≤ q) [((a 200), f_m a g)] := (hD.to hAz).pick (ws' := [((a 200), f_m a g)]) [0] (by decide) rfl
                              have hFc := va_free (wc := [((a 200), f_m a g)]) hD hS hA [0] rfl
                              refine va_calli (va_runV (As := [.int 1]) (rest := []) ⟨hx, hb, hml, hown, ht⟩ (k_X15_isWrong l D g z0 _ a) (cwV 1 ht (gV w_376 w_378 w_379 w_334 w_377) rfl rfl rfl (by decide +kernel) (le2 rfl rfl)) ⟨PP.blind, va_recv hK.1 hP (ci := 21) (q0 := 0) rfl rfl, PP.mk' hK hZ hz hAz hS hPc hDc⟩ rfl rfl hl.1 rfl (lv_room (Nat.le_of_ble_eq_true rfl)) dX15_marchFinds_138 (le2 rfl rfl)) hS (fun q _ h => hFc q h) hFc (fun r u t H locs ht1 hvm hw hB hz1 hk1 hS => ?_)
                              obtain ⟨rfl, hw⟩ := hw
                              obtain ⟨hP1, hD1⟩ := hB
                              rw [ht1] at hP1
                              obtain ⟨hP, hD⟩ := va_join (wr := []) (w1 := [((a 200), .inr (21, [.int 1, .ref (a 201), .ref (a 202), .ref (a 203), .ref (a 204), .ref (a 205), .ref (a 206), .int 0, .int 0, .int 0, .int 0, .ref (a 208), .ref (a 209), .ref (a 210), .ref (a 211), .ref (a 212), .int 4, .int 12, .int (-1), .int 0, .ref (g 200), .ref (a 213), .int 0, .int 97, .ref (a 214), .ref (a 215), .ref (a 207), .null, .int 0]))]) hP hD [0] [] rfl rfl (by decide) (by decide) hk1 hFc hP1 hD1
                              have hP : va_P D vwCl [((a 200), .inr (21, [.int 1, .ref (a 201), .ref (a 202), .ref (a 203), .ref (a 204), .ref (a 205), .ref (a 206), .int 0, .int 0, .int 0, .int 0, .ref (a 208), .ref (a 209), .ref (a 210), .ref (a 211), .ref (a 212), .int 4, .int 12, .int (-1), .int 0, .ref (g 200), .ref (a 213), .int 0, .int 97, .ref (a 214), .ref (a 215), .ref (a 207), .null, .int 0]))] H := hP
                              have hD : va_D (va_A [((a 200), f_m a g)] s.heap.size) [((a 200), .inr (21, [.int 1, .ref (a 201), .ref (a 202), .ref (a 203), .ref (a 204), .ref (a 205), .ref (a 206), .int 0, .int 0, .int 0, .int 0, .ref (a 208), .ref (a 209), .ref (a 210), .ref (a 211), .ref (a 212), .int 4, .int 12, .int (-1), .int 0, .ref (g 200), .ref (a 213), .int 0, .int 97, .ref (a 214), .ref (a 215), .ref (a 207), .null, .int 0]))] := hD
                              refine lv_if_eq (tgt := 146) hx hb dX15_marchFinds_141 (by decide) (fun c_210 => ?_) (fun c_210 => ?_)
                              · exact absurd c_210 (by decide)
                              · refine lv_iconst (v := 0) hx hb dX15_marchFinds_144 (by decide) ?_
                                have hP9 := hP.sub (ws' := [((a 200), .inr (21, [.int 1, .ref (a 201), .ref (a 202), .ref (a 203), .ref (a 204), .ref (a 205), .ref (a 206), .int 0, .int 0, .int 0, .int 0, .ref (a 208), .ref (a 209), .ref (a 210), .ref (a 211), .ref (a 212), .int 4, .int 12, .int (-1), .int 0, .ref (g 200), .ref (a 213), .int 0, .int 97, .ref (a 214), .ref (a 215), .ref (a 207), .null, .int 0]))]) [0] rfl
                                have hD9 := hD.sub (ws' := [((a 200), .inr (21, [.int 1, .ref (a 201), .ref (a 202), .ref (a 203), .ref (a 204), .ref (a 205), .ref (a 206), .int 0, .int 0, .int 0, .int 0, .ref (a 208), .ref (a 209), .ref (a 210), .ref (a 211), .ref (a 212), .int 4, .int 12, .int (-1), .int 0, .ref (g 200), .ref (a 213), .int 0, .int 97, .ref (a 214), .ref (a 215), .ref (a 207), .null, .int 0]))]) [0] (by decide) rfl
                                refine W.widen (k := 0) (n := 0) (Nat.le_of_ble_eq_true rfl) (Nat.le_of_ble_eq_true rfl) ?_
                                exact W.zret (v := 0) hx hb hr rfl (fun t ht9 hW9 => ⟨⟨0, 1, rfl, (Or.inl ⟨rfl, rfl, (Or.inr (Or.inr (Or.inr (Or.inr (Or.inr (Or.inr (Or.inr (Or.inr (Or.inr (Or.inr (Or.inr (Or.inr (Or.inr (Or.inr (Or.inr (Or.inr (Or.inr (Or.inr (Or.inr (Or.inr (Or.inr (Or.inr (Or.inr (Or.inr (Or.inr (Or.inr (Or.inl ⟨c_187, c_189, c_190, c_191, c_202, c_203, c_207⟩)))))))))))))))))))))))))))⟩), ⟨(by rw [ht9]; exact hP9), hD9⟩⟩, hS.F ht9⟩) hS.2.2 dX15_marchFinds_145 hlocks
                          · exact absurd c_208 (by decide)
                        · obtain ⟨c_211, c_212⟩ := hw
                          have hP := ro1 hP hk1
                          refine lv_if_eq (tgt := 113) hx hb dX15_marchFinds_90 (by decide) (fun c_213 => ?_) (fun c_213 => ?_)
                          · refine lv_iconst (v := 0) hx hb dX15_marchFinds_113 (by decide) ?_
                            refine lv_istore (lv' := [(8, .int 0), (7, .int 0), (6, .int 1), (0, .ref (a 200)), (1, .int p0), (2, .int p1), (3, .int p2), (4, .int p3), (5, .int p4)]) hx hb dX15_marchFinds_114 hl (by decide) rfl (fun ls hl => ?_)
                            refine lv_aload_n hx hb dX15_marchFinds_116 rfl (lv_at hl 3 rfl) ?_
                            refine lv_iload hx hb dX15_marchFinds_117 (lv_at hl 0 rfl) ?_
                            refine lv_if_ne (tgt := 126) hx hb dX15_marchFinds_119 (by decide) (fun c_214 => ?_) (fun c_214 => ?_)
                            · exact absurd c_214 (by decide)
                            · refine lv_iconst (v := 1) hx hb dX15_marchFinds_122 (by decide) ?_
                              refine lv_goto (tgt := 138) hx hb dX15_marchFinds_123 (by decide) ?_
                              have hPc : va_P D vwCl [((a 200), f_m a g)] _ := hP.sub (ws' := [((a 200), f_m a g)]) [0] rfl
                              have hDc : va_D (fun q => z0 ≤ q) [((a 200), f_m a g)] := (hD.to hAz).pick (ws' := [((a 200), f_m a g)]) [0] (by decide) rfl
                              have hFc := va_free (wc := [((a 200), f_m a g)]) hD hS hA [0] rfl
                              refine va_calli (va_runV (As := [.int 1]) (rest := []) ⟨hx, hb, hml, hown, ht⟩ (k_X15_isWrong l D g z0 _ a) (cwV 1 ht (gV w_376 w_378 w_379 w_334 w_377) rfl rfl rfl (by decide +kernel) (le2 rfl rfl)) ⟨PP.blind, va_recv hK.1 hP (ci := 21) (q0 := 0) rfl rfl, PP.mk' hK hZ hz hAz hS hPc hDc⟩ rfl rfl hl.1 rfl (lv_room (Nat.le_of_ble_eq_true rfl)) dX15_marchFinds_138 (le2 rfl rfl)) hS (fun q _ h => hFc q h) hFc (fun r u t H locs ht1 hvm hw hB hz1 hk1 hS => ?_)
                              obtain ⟨rfl, hw⟩ := hw
                              obtain ⟨hP1, hD1⟩ := hB
                              rw [ht1] at hP1
                              obtain ⟨hP, hD⟩ := va_join (wr := []) (w1 := [((a 200), .inr (21, [.int 1, .ref (a 201), .ref (a 202), .ref (a 203), .ref (a 204), .ref (a 205), .ref (a 206), .int 0, .int 0, .int 0, .int 0, .ref (a 208), .ref (a 209), .ref (a 210), .ref (a 211), .ref (a 212), .int 4, .int 12, .int (-1), .int 0, .ref (g 200), .ref (a 213), .int 0, .int 97, .ref (a 214), .ref (a 215), .ref (a 207), .null, .int 0]))]) hP hD [0] [] rfl rfl (by decide) (by decide) hk1 hFc hP1 hD1
                              have hP : va_P D vwCl [((a 200), .inr (21, [.int 1, .ref (a 201), .ref (a 202), .ref (a 203), .ref (a 204), .ref (a 205), .ref (a 206), .int 0, .int 0, .int 0, .int 0, .ref (a 208), .ref (a 209), .ref (a 210), .ref (a 211), .ref (a 212), .int 4, .int 12, .int (-1), .int 0, .ref (g 200), .ref (a 213), .int 0, .int 97, .ref (a 214), .ref (a 215), .ref (a 207), .null, .int 0]))] H := hP
                              have hD : va_D (va_A [((a 200), f_m a g)] s.heap.size) [((a 200), .inr (21, [.int 1, .ref (a 201), .ref (a 202), .ref (a 203), .ref (a 204), .ref (a 205), .ref (a 206), .int 0, .int 0, .int 0, .int 0, .ref (a 208), .ref (a 209), .ref (a 210), .ref (a 211), .ref (a 212), .int 4, .int 12, .int (-1), .int 0, .ref (g 200), .ref (a 213), .int 0, .int 97, .ref (a 214), .ref (a 215), .ref (a 207), .null, .int 0]))] := hD
                              refine lv_if_eq (tgt := 146) hx hb dX15_marchFinds_141 (by decide) (fun c_215 => ?_) (fun c_215 => ?_)
                              · exact absurd c_215 (by decide)
                              · refine lv_iconst (v := 0) hx hb dX15_marchFinds_144 (by decide) ?_
                                have hP9 := hP.sub (ws' := [((a 200), .inr (21, [.int 1, .ref (a 201), .ref (a 202), .ref (a 203), .ref (a 204), .ref (a 205), .ref (a 206), .int 0, .int 0, .int 0, .int 0, .ref (a 208), .ref (a 209), .ref (a 210), .ref (a 211), .ref (a 212), .int 4, .int 12, .int (-1), .int 0, .ref (g 200), .ref (a 213), .int 0, .int 97, .ref (a 214), .ref (a 215), .ref (a 207), .null, .int 0]))]) [0] rfl
                                have hD9 := hD.sub (ws' := [((a 200), .inr (21, [.int 1, .ref (a 201), .ref (a 202), .ref (a 203), .ref (a 204), .ref (a 205), .ref (a 206), .int 0, .int 0, .int 0, .int 0, .ref (a 208), .ref (a 209), .ref (a 210), .ref (a 211), .ref (a 212), .int 4, .int 12, .int (-1), .int 0, .ref (g 200), .ref (a 213), .int 0, .int 97, .ref (a 214), .ref (a 215), .ref (a 207), .null, .int 0]))]) [0] (by decide) rfl
                                refine W.widen (k := 0) (n := 0) (Nat.le_of_ble_eq_true rfl) (Nat.le_of_ble_eq_true rfl) ?_
                                exact W.zret (v := 0) hx hb hr rfl (fun t ht9 hW9 => ⟨⟨0, 1, rfl, (Or.inl ⟨rfl, rfl, (Or.inr (Or.inr (Or.inr (Or.inr (Or.inr (Or.inr (Or.inr (Or.inr (Or.inr (Or.inr (Or.inr (Or.inr (Or.inr (Or.inr (Or.inr (Or.inr (Or.inr (Or.inr (Or.inr (Or.inr (Or.inr (Or.inr (Or.inr (Or.inr (Or.inr (Or.inr (Or.inr (Or.inl ⟨c_187, c_189, c_190, c_191, c_202, c_203, c_211, c_212⟩))))))))))))))))))))))))))))⟩), ⟨(by rw [ht9]; exact hP9), hD9⟩⟩, hS.F ht9⟩) hS.2.2 dX15_marchFinds_145 hlocks
                          · exact absurd c_213 (by decide)
                      · obtain ⟨rfl, hw⟩ := hw
                        obtain ⟨c_216, c_217⟩ := hw
                        have hP := ro1 hP hk1
                        refine lv_if_eq (tgt := 113) hx hb dX15_marchFinds_90 (by decide) (fun c_218 => ?_) (fun c_218 => ?_)
                        · exact absurd c_218 (by decide)
                        · refine lv_iload_n hx hb dX15_marchFinds_93 rfl (lv_at hl 3 rfl) ?_
                          refine lv_bipush (v := 99) hx hb dX15_marchFinds_94 (by decide) ?_
                          refine lv_icmp_ne (tgt := 109) hx hb dX15_marchFinds_96 (by decide) (fun c_219 => ?_) (fun c_219 => ?_)
                          · refine lv_iconst (v := 1) hx hb dX15_marchFinds_109 (by decide) ?_
                            refine lv_goto (tgt := 114) hx hb dX15_marchFinds_110 (by decide) ?_
                            refine lv_istore (lv' := [(8, .int 1), (7, .int 0), (6, .int 1), (0, .ref (a 200)), (1, .int p0), (2, .int p1), (3, .int p2), (4, .int p3), (5, .int p4)]) hx hb dX15_marchFinds_114 hl (by decide) rfl (fun ls hl => ?_)
                            refine lv_aload_n hx hb dX15_marchFinds_116 rfl (lv_at hl 3 rfl) ?_
                            refine lv_iload hx hb dX15_marchFinds_117 (lv_at hl 0 rfl) ?_
                            refine lv_if_ne (tgt := 126) hx hb dX15_marchFinds_119 (by decide) (fun c_220 => ?_) (fun c_220 => ?_)
                            · refine lv_aload_n hx hb dX15_marchFinds_126 rfl (lv_at hl 3 rfl) ?_
                              have hPc : va_P D vwCl [((a 200), f_m a g)] _ := hP.sub (ws' := [((a 200), f_m a g)]) [0] rfl
                              have hDc : va_D (fun q => z0 ≤ q) [((a 200), f_m a g)] := (hD.to hAz).pick (ws' := [((a 200), f_m a g)]) [0] (by decide) rfl
                              have hFc := AnA (ws := [((a 200), f_m a g)]) hS.1
                              refine va_calli (va_runV (As := []) (rest := [.ref (a 200)]) ⟨hx, hb, hml, hown, ht⟩ (k_X15_isRightNow l D g z0 _ a) (cwV 0 ht (gV w_514 w_516 w_517 w_334 w_515) rfl rfl rfl (by decide +kernel) (le2 rfl rfl)) ⟨PP.blind, va_recv hK.1 hP (ci := 21) (q0 := 0) rfl rfl, PP.mk' hK hZ hz hAz hS hPc hDc⟩ rfl rfl hl.1 rfl (lv_room (Nat.le_of_ble_eq_true rfl)) dX15_marchFinds_127 (le2 rfl rfl)) hS (fun q _ h => hFc q h) hFc (fun r u t H locs ht1 hvm hw hB hz1 hk1 hS => ?_)
                              obtain ⟨rfl, hw⟩ := hw
                              have hP := ro1 hP hk1
                              refine lv_if_ne (tgt := 137) hx hb dX15_marchFinds_130 (by decide) (fun c_221 => ?_) (fun c_221 => ?_)
                              · exact absurd c_221 (by decide)
                              · refine lv_iconst (v := 2) hx hb dX15_marchFinds_133 (by decide) ?_
                                refine lv_goto (tgt := 138) hx hb dX15_marchFinds_134 (by decide) ?_
                                have hPc : va_P D vwCl [((a 200), f_m a g)] _ := hP.sub (ws' := [((a 200), f_m a g)]) [0] rfl
                                have hDc : va_D (fun q => z0 ≤ q) [((a 200), f_m a g)] := (hD.to hAz).pick (ws' := [((a 200), f_m a g)]) [0] (by decide) rfl
                                have hFc := va_free (wc := [((a 200), f_m a g)]) hD hS hA [0] rfl
                                refine va_calli (va_runV (As := [.int 2]) (rest := []) ⟨hx, hb, hml, hown, ht⟩ (k_X15_isWrong_v2 l D g z0 _ a) (cwV 1 ht (gV w_376 w_378 w_379 w_334 w_377) rfl rfl rfl (by decide +kernel) (le2 rfl rfl)) ⟨PP.blind, va_recv hK.1 hP (ci := 21) (q0 := 0) rfl rfl, PP.mk' hK hZ hz hAz hS hPc hDc⟩ rfl rfl hl.1 rfl (lv_room (Nat.le_of_ble_eq_true rfl)) dX15_marchFinds_138 (le2 rfl rfl)) hS (fun q _ h => hFc q h) hFc (fun r u t H locs ht1 hvm hw hB hz1 hk1 hS => ?_)
                                obtain ⟨rfl, hw⟩ := hw
                                obtain ⟨hP1, hD1⟩ := hB
                                rw [ht1] at hP1
                                obtain ⟨hP, hD⟩ := va_join (wr := []) (w1 := [((a 200), .inr (21, [.int 2, .ref (a 201), .ref (a 202), .ref (a 203), .ref (a 204), .ref (a 205), .ref (a 206), .int 0, .int 0, .int 0, .int 0, .ref (a 208), .ref (a 209), .ref (a 210), .ref (a 211), .ref (a 212), .int 4, .int 12, .int (-1), .int 0, .ref (g 200), .ref (a 213), .int 0, .int 97, .ref (a 214), .ref (a 215), .ref (a 207), .null, .int 0]))]) hP hD [0] [] rfl rfl (by decide) (by decide) hk1 hFc hP1 hD1
                                have hP : va_P D vwCl [((a 200), .inr (21, [.int 2, .ref (a 201), .ref (a 202), .ref (a 203), .ref (a 204), .ref (a 205), .ref (a 206), .int 0, .int 0, .int 0, .int 0, .ref (a 208), .ref (a 209), .ref (a 210), .ref (a 211), .ref (a 212), .int 4, .int 12, .int (-1), .int 0, .ref (g 200), .ref (a 213), .int 0, .int 97, .ref (a 214), .ref (a 215), .ref (a 207), .null, .int 0]))] H := hP
                                have hD : va_D (va_A [((a 200), f_m a g)] s.heap.size) [((a 200), .inr (21, [.int 2, .ref (a 201), .ref (a 202), .ref (a 203), .ref (a 204), .ref (a 205), .ref (a 206), .int 0, .int 0, .int 0, .int 0, .ref (a 208), .ref (a 209), .ref (a 210), .ref (a 211), .ref (a 212), .int 4, .int 12, .int (-1), .int 0, .ref (g 200), .ref (a 213), .int 0, .int 97, .ref (a 214), .ref (a 215), .ref (a 207), .null, .int 0]))] := hD
                                refine lv_if_eq (tgt := 146) hx hb dX15_marchFinds_141 (by decide) (fun c_222 => ?_) (fun c_222 => ?_)
                                · exact absurd c_222 (by decide)
                                · refine lv_iconst (v := 0) hx hb dX15_marchFinds_144 (by decide) ?_
                                  have hP9 := hP.sub (ws' := [((a 200), .inr (21, [.int 2, .ref (a 201), .ref (a 202), .ref (a 203), .ref (a 204), .ref (a 205), .ref (a 206), .int 0, .int 0, .int 0, .int 0, .ref (a 208), .ref (a 209), .ref (a 210), .ref (a 211), .ref (a 212), .int 4, .int 12, .int (-1), .int 0, .ref (g 200), .ref (a 213), .int 0, .int 97, .ref (a 214), .ref (a 215), .ref (a 207), .null, .int 0]))]) [0] rfl
                                  have hD9 := hD.sub (ws' := [((a 200), .inr (21, [.int 2, .ref (a 201), .ref (a 202), .ref (a 203), .ref (a 204), .ref (a 205), .ref (a 206), .int 0, .int 0, .int 0, .int 0, .ref (a 208), .ref (a 209), .ref (a 210), .ref (a 211), .ref (a 212), .int 4, .int 12, .int (-1), .int 0, .ref (g 200), .ref (a 213), .int 0, .int 97, .ref (a 214), .ref (a 215), .ref (a 207), .null, .int 0]))]) [0] (by decide) rfl
                                  refine W.widen (k := 0) (n := 0) (Nat.le_of_ble_eq_true rfl) (Nat.le_of_ble_eq_true rfl) ?_
                                  exact W.zret (v := 0) hx hb hr rfl (fun t ht9 hW9 => ⟨⟨0, 2, rfl, (Or.inr ⟨rfl, rfl, (Or.inr (Or.inr (Or.inr (Or.inl ⟨c_187, c_189, c_190, c_191, c_202, c_203, c_216, c_217⟩))))⟩), ⟨(by rw [ht9]; exact hP9), hD9⟩⟩, hS.F ht9⟩) hS.2.2 dX15_marchFinds_145 hlocks
                            · exact absurd c_220 (by decide)
                          · exact absurd (c_187.symm.trans c_219) (by decide)
                  · exact absurd c_205 (by decide)
          · exact absurd (c_187.symm.trans c_191) (by decide)
  · obtain ⟨rfl, hw⟩ := hw
    have c_223 := hw
    have hP := ro1 hP hk1
    refine lv_if_lt (tgt := 14) hx hb dX15_marchFinds_7 (by decide) (fun c_224 => ?_) (fun c_224 => ?_)
    · exact absurd c_224 (by decide)
    · refine lv_iconst (v := 1) hx hb dX15_marchFinds_10 (by decide) ?_
      refine lv_goto (tgt := 15) hx hb dX15_marchFinds_11 (by decide) ?_
      refine lv_istore (lv' := [(6, .int 1), (0, .ref (a 200)), (1, .int p0), (2, .int p1), (3, .int p2), (4, .int p3), (5, .int p4)]) hx hb dX15_marchFinds_15 hl (by decide) rfl (fun ls hl => ?_)
      refine lv_iload_n hx hb dX15_marchFinds_17 rfl (lv_at hl 2 rfl) ?_
      refine lv_bipush (v := 99) hx hb dX15_marchFinds_18 (by decide) ?_
      refine lv_icmp_eq (tgt := 35) hx hb dX15_marchFinds_20 (by decide) (fun c_225 => ?_) (fun c_225 => ?_)
      · exact absurd (c_223.symm.trans c_225) (by decide)
      · refine lv_iload_n hx hb dX15_marchFinds_23 rfl (lv_at hl 2 rfl) ?_
        refine lv_bipush (v := 105) hx hb dX15_marchFinds_24 (by decide) ?_
        refine lv_icmp_eq (tgt := 35) hx hb dX15_marchFinds_26 (by decide) (fun c_226 => ?_) (fun c_226 => ?_)
        · exact absurd (c_223.symm.trans c_226) (by decide)
        · refine lv_iload_n hx hb dX15_marchFinds_29 rfl (lv_at hl 2 rfl) ?_
          refine lv_bipush (v := 97) hx hb dX15_marchFinds_30 (by decide) ?_
          refine lv_icmp_ne (tgt := 39) hx hb dX15_marchFinds_32 (by decide) (fun c_227 => ?_) (fun c_227 => ?_)
          · refine lv_iconst (v := 0) hx hb dX15_marchFinds_39 (by decide) ?_
            refine lv_istore (lv' := [(7, .int 0), (6, .int 1), (0, .ref (a 200)), (1, .int p0), (2, .int p1), (3, .int p2), (4, .int p3), (5, .int p4)]) hx hb dX15_marchFinds_40 hl (by decide) rfl (fun ls hl => ?_)
            refine lv_iload hx hb dX15_marchFinds_42 (lv_at hl 1 rfl) ?_
            refine lv_if_eq (tgt := 113) hx hb dX15_marchFinds_44 (by decide) (fun c_228 => ?_) (fun c_228 => ?_)
            · exact absurd c_228 (by decide)
            · refine lv_iload_n hx hb dX15_marchFinds_47 rfl (lv_at hl 4 rfl) ?_
              refine lv_iconst (v := 0) hx hb dX15_marchFinds_48 (by decide) ?_
              refine lv_bipush (v := 7) hx hb dX15_marchFinds_49 (by decide) ?_
              have hPc : va_P D vwCl [] _ := hP.sub (ws' := []) [] rfl
              have hDc : va_D (fun q => z0 ≤ q) [] := (hD.to hAz).pick (ws' := []) [] (by decide) rfl
              have hFc := AnA (ws := [((a 200), f_m a g)]) hS.1
              refine va_calli (va_runS (As := [.int p1, .int 0, .int 7]) (rest := []) ⟨hx, hb, hml, hown, ht⟩ (k_X15_isBetween_v9 l D g z0 _ a p1) (va_cwS 3 ht (gS w_369 w_371 w_334 w_370) rfl rfl rfl (by decide +kernel) (le2 rfl rfl)) ⟨PP.blind, PP.mk' hK hZ hz hAz hS hPc hDc⟩ rfl rfl hl.1 rfl (lv_room (Nat.le_of_ble_eq_true rfl)) dX15_marchFinds_51 (le2 rfl rfl)) hS (fun q _ h => hFc q h) hFc (fun r u t H locs ht1 hvm hw hB hz1 hk1 hS => ?_)
              rcases hw with hw | hw
              · obtain ⟨rfl, hw⟩ := hw
                rcases hw with hw | hw
                · have c_229 := hw
                  have hP := ro1 hP hk1
                  refine lv_if_eq (tgt := 113) hx hb dX15_marchFinds_54 (by decide) (fun c_230 => ?_) (fun c_230 => ?_)
                  · refine lv_iconst (v := 0) hx hb dX15_marchFinds_113 (by decide) ?_
                    refine lv_istore (lv' := [(8, .int 0), (7, .int 0), (6, .int 1), (0, .ref (a 200)), (1, .int p0), (2, .int p1), (3, .int p2), (4, .int p3), (5, .int p4)]) hx hb dX15_marchFinds_114 hl (by decide) rfl (fun ls hl => ?_)
                    refine lv_aload_n hx hb dX15_marchFinds_116 rfl (lv_at hl 3 rfl) ?_
                    refine lv_iload hx hb dX15_marchFinds_117 (lv_at hl 0 rfl) ?_
                    refine lv_if_ne (tgt := 126) hx hb dX15_marchFinds_119 (by decide) (fun c_231 => ?_) (fun c_231 => ?_)
                    · exact absurd c_231 (by decide)
                    · refine lv_iconst (v := 1) hx hb dX15_marchFinds_122 (by decide) ?_
                      refine lv_goto (tgt := 138) hx hb dX15_marchFinds_123 (by decide) ?_
                      have hPc : va_P D vwCl [((a 200), f_m a g)] _ := hP.sub (ws' := [((a 200), f_m a g)]) [0] rfl
                      have hDc : va_D (fun q => z0 ≤ q) [((a 200), f_m a g)] := (hD.to hAz).pick (ws' := [((a 200), f_m a g)]) [0] (by decide) rfl
                      have hFc := va_free (wc := [((a 200), f_m a g)]) hD hS hA [0] rfl
                      refine va_calli (va_runV (As := [.int 1]) (rest := []) ⟨hx, hb, hml, hown, ht⟩ (k_X15_isWrong l D g z0 _ a) (cwV 1 ht (gV w_376 w_378 w_379 w_334 w_377) rfl rfl rfl (by decide +kernel) (le2 rfl rfl)) ⟨PP.blind, va_recv hK.1 hP (ci := 21) (q0 := 0) rfl rfl, PP.mk' hK hZ hz hAz hS hPc hDc⟩ rfl rfl hl.1 rfl (lv_room (Nat.le_of_ble_eq_true rfl)) dX15_marchFinds_138 (le2 rfl rfl)) hS (fun q _ h => hFc q h) hFc (fun r u t H locs ht1 hvm hw hB hz1 hk1 hS => ?_)
                      obtain ⟨rfl, hw⟩ := hw
                      obtain ⟨hP1, hD1⟩ := hB
                      rw [ht1] at hP1
                      obtain ⟨hP, hD⟩ := va_join (wr := []) (w1 := [((a 200), .inr (21, [.int 1, .ref (a 201), .ref (a 202), .ref (a 203), .ref (a 204), .ref (a 205), .ref (a 206), .int 0, .int 0, .int 0, .int 0, .ref (a 208), .ref (a 209), .ref (a 210), .ref (a 211), .ref (a 212), .int 4, .int 12, .int (-1), .int 0, .ref (g 200), .ref (a 213), .int 0, .int 97, .ref (a 214), .ref (a 215), .ref (a 207), .null, .int 0]))]) hP hD [0] [] rfl rfl (by decide) (by decide) hk1 hFc hP1 hD1
                      have hP : va_P D vwCl [((a 200), .inr (21, [.int 1, .ref (a 201), .ref (a 202), .ref (a 203), .ref (a 204), .ref (a 205), .ref (a 206), .int 0, .int 0, .int 0, .int 0, .ref (a 208), .ref (a 209), .ref (a 210), .ref (a 211), .ref (a 212), .int 4, .int 12, .int (-1), .int 0, .ref (g 200), .ref (a 213), .int 0, .int 97, .ref (a 214), .ref (a 215), .ref (a 207), .null, .int 0]))] H := hP
                      have hD : va_D (va_A [((a 200), f_m a g)] s.heap.size) [((a 200), .inr (21, [.int 1, .ref (a 201), .ref (a 202), .ref (a 203), .ref (a 204), .ref (a 205), .ref (a 206), .int 0, .int 0, .int 0, .int 0, .ref (a 208), .ref (a 209), .ref (a 210), .ref (a 211), .ref (a 212), .int 4, .int 12, .int (-1), .int 0, .ref (g 200), .ref (a 213), .int 0, .int 97, .ref (a 214), .ref (a 215), .ref (a 207), .null, .int 0]))] := hD
                      refine lv_if_eq (tgt := 146) hx hb dX15_marchFinds_141 (by decide) (fun c_232 => ?_) (fun c_232 => ?_)
                      · exact absurd c_232 (by decide)
                      · refine lv_iconst (v := 0) hx hb dX15_marchFinds_144 (by decide) ?_
                        have hP9 := hP.sub (ws' := [((a 200), .inr (21, [.int 1, .ref (a 201), .ref (a 202), .ref (a 203), .ref (a 204), .ref (a 205), .ref (a 206), .int 0, .int 0, .int 0, .int 0, .ref (a 208), .ref (a 209), .ref (a 210), .ref (a 211), .ref (a 212), .int 4, .int 12, .int (-1), .int 0, .ref (g 200), .ref (a 213), .int 0, .int 97, .ref (a 214), .ref (a 215), .ref (a 207), .null, .int 0]))]) [0] rfl
                        have hD9 := hD.sub (ws' := [((a 200), .inr (21, [.int 1, .ref (a 201), .ref (a 202), .ref (a 203), .ref (a 204), .ref (a 205), .ref (a 206), .int 0, .int 0, .int 0, .int 0, .ref (a 208), .ref (a 209), .ref (a 210), .ref (a 211), .ref (a 212), .int 4, .int 12, .int (-1), .int 0, .ref (g 200), .ref (a 213), .int 0, .int 97, .ref (a 214), .ref (a 215), .ref (a 207), .null, .int 0]))]) [0] (by decide) rfl
                        refine W.widen (k := 0) (n := 0) (Nat.le_of_ble_eq_true rfl) (Nat.le_of_ble_eq_true rfl) ?_
                        exact W.zret (v := 0) hx hb hr rfl (fun t ht9 hW9 => ⟨⟨0, 1, rfl, (Or.inl ⟨rfl, rfl, (Or.inr (Or.inr (Or.inr (Or.inr (Or.inr (Or.inr (Or.inr (Or.inr (Or.inr (Or.inr (Or.inr (Or.inr (Or.inr (Or.inr (Or.inr (Or.inr (Or.inr (Or.inr (Or.inr (Or.inr (Or.inr (Or.inr (Or.inr (Or.inr (Or.inr (Or.inr (Or.inr (Or.inr (Or.inl ⟨c_223, c_225, c_226, c_227, c_229⟩)))))))))))))))))))))))))))))⟩), ⟨(by rw [ht9]; exact hP9), hD9⟩⟩, hS.F ht9⟩) hS.2.2 dX15_marchFinds_145 hlocks
                  · exact absurd c_230 (by decide)
                · obtain ⟨c_233, c_234⟩ := hw
                  have hP := ro1 hP hk1
                  refine lv_if_eq (tgt := 113) hx hb dX15_marchFinds_54 (by decide) (fun c_235 => ?_) (fun c_235 => ?_)
                  · refine lv_iconst (v := 0) hx hb dX15_marchFinds_113 (by decide) ?_
                    refine lv_istore (lv' := [(8, .int 0), (7, .int 0), (6, .int 1), (0, .ref (a 200)), (1, .int p0), (2, .int p1), (3, .int p2), (4, .int p3), (5, .int p4)]) hx hb dX15_marchFinds_114 hl (by decide) rfl (fun ls hl => ?_)
                    refine lv_aload_n hx hb dX15_marchFinds_116 rfl (lv_at hl 3 rfl) ?_
                    refine lv_iload hx hb dX15_marchFinds_117 (lv_at hl 0 rfl) ?_
                    refine lv_if_ne (tgt := 126) hx hb dX15_marchFinds_119 (by decide) (fun c_236 => ?_) (fun c_236 => ?_)
                    · exact absurd c_236 (by decide)
                    · refine lv_iconst (v := 1) hx hb dX15_marchFinds_122 (by decide) ?_
                      refine lv_goto (tgt := 138) hx hb dX15_marchFinds_123 (by decide) ?_
                      have hPc : va_P D vwCl [((a 200), f_m a g)] _ := hP.sub (ws' := [((a 200), f_m a g)]) [0] rfl
                      have hDc : va_D (fun q => z0 ≤ q) [((a 200), f_m a g)] := (hD.to hAz).pick (ws' := [((a 200), f_m a g)]) [0] (by decide) rfl
                      have hFc := va_free (wc := [((a 200), f_m a g)]) hD hS hA [0] rfl
                      refine va_calli (va_runV (As := [.int 1]) (rest := []) ⟨hx, hb, hml, hown, ht⟩ (k_X15_isWrong l D g z0 _ a) (cwV 1 ht (gV w_376 w_378 w_379 w_334 w_377) rfl rfl rfl (by decide +kernel) (le2 rfl rfl)) ⟨PP.blind, va_recv hK.1 hP (ci := 21) (q0 := 0) rfl rfl, PP.mk' hK hZ hz hAz hS hPc hDc⟩ rfl rfl hl.1 rfl (lv_room (Nat.le_of_ble_eq_true rfl)) dX15_marchFinds_138 (le2 rfl rfl)) hS (fun q _ h => hFc q h) hFc (fun r u t H locs ht1 hvm hw hB hz1 hk1 hS => ?_)
                      obtain ⟨rfl, hw⟩ := hw
                      obtain ⟨hP1, hD1⟩ := hB
                      rw [ht1] at hP1
                      obtain ⟨hP, hD⟩ := va_join (wr := []) (w1 := [((a 200), .inr (21, [.int 1, .ref (a 201), .ref (a 202), .ref (a 203), .ref (a 204), .ref (a 205), .ref (a 206), .int 0, .int 0, .int 0, .int 0, .ref (a 208), .ref (a 209), .ref (a 210), .ref (a 211), .ref (a 212), .int 4, .int 12, .int (-1), .int 0, .ref (g 200), .ref (a 213), .int 0, .int 97, .ref (a 214), .ref (a 215), .ref (a 207), .null, .int 0]))]) hP hD [0] [] rfl rfl (by decide) (by decide) hk1 hFc hP1 hD1
                      have hP : va_P D vwCl [((a 200), .inr (21, [.int 1, .ref (a 201), .ref (a 202), .ref (a 203), .ref (a 204), .ref (a 205), .ref (a 206), .int 0, .int 0, .int 0, .int 0, .ref (a 208), .ref (a 209), .ref (a 210), .ref (a 211), .ref (a 212), .int 4, .int 12, .int (-1), .int 0, .ref (g 200), .ref (a 213), .int 0, .int 97, .ref (a 214), .ref (a 215), .ref (a 207), .null, .int 0]))] H := hP
                      have hD : va_D (va_A [((a 200), f_m a g)] s.heap.size) [((a 200), .inr (21, [.int 1, .ref (a 201), .ref (a 202), .ref (a 203), .ref (a 204), .ref (a 205), .ref (a 206), .int 0, .int 0, .int 0, .int 0, .ref (a 208), .ref (a 209), .ref (a 210), .ref (a 211), .ref (a 212), .int 4, .int 12, .int (-1), .int 0, .ref (g 200), .ref (a 213), .int 0, .int 97, .ref (a 214), .ref (a 215), .ref (a 207), .null, .int 0]))] := hD
                      refine lv_if_eq (tgt := 146) hx hb dX15_marchFinds_141 (by decide) (fun c_237 => ?_) (fun c_237 => ?_)
                      · exact absurd c_237 (by decide)
                      · refine lv_iconst (v := 0) hx hb dX15_marchFinds_144 (by decide) ?_
                        have hP9 := hP.sub (ws' := [((a 200), .inr (21, [.int 1, .ref (a 201), .ref (a 202), .ref (a 203), .ref (a 204), .ref (a 205), .ref (a 206), .int 0, .int 0, .int 0, .int 0, .ref (a 208), .ref (a 209), .ref (a 210), .ref (a 211), .ref (a 212), .int 4, .int 12, .int (-1), .int 0, .ref (g 200), .ref (a 213), .int 0, .int 97, .ref (a 214), .ref (a 215), .ref (a 207), .null, .int 0]))]) [0] rfl
                        have hD9 := hD.sub (ws' := [((a 200), .inr (21, [.int 1, .ref (a 201), .ref (a 202), .ref (a 203), .ref (a 204), .ref (a 205), .ref (a 206), .int 0, .int 0, .int 0, .int 0, .ref (a 208), .ref (a 209), .ref (a 210), .ref (a 211), .ref (a 212), .int 4, .int 12, .int (-1), .int 0, .ref (g 200), .ref (a 213), .int 0, .int 97, .ref (a 214), .ref (a 215), .ref (a 207), .null, .int 0]))]) [0] (by decide) rfl
                        refine W.widen (k := 0) (n := 0) (Nat.le_of_ble_eq_true rfl) (Nat.le_of_ble_eq_true rfl) ?_
                        exact W.zret (v := 0) hx hb hr rfl (fun t ht9 hW9 => ⟨⟨0, 1, rfl, (Or.inl ⟨rfl, rfl, (Or.inr (Or.inr (Or.inr (Or.inr (Or.inr (Or.inr (Or.inr (Or.inr (Or.inr (Or.inr (Or.inr (Or.inr (Or.inr (Or.inr (Or.inr (Or.inr (Or.inr (Or.inr (Or.inr (Or.inr (Or.inr (Or.inr (Or.inr (Or.inr (Or.inr (Or.inr (Or.inr (Or.inr (Or.inr (Or.inl ⟨c_223, c_225, c_226, c_227, c_233, c_234⟩))))))))))))))))))))))))))))))⟩), ⟨(by rw [ht9]; exact hP9), hD9⟩⟩, hS.F ht9⟩) hS.2.2 dX15_marchFinds_145 hlocks
                  · exact absurd c_235 (by decide)
              · obtain ⟨rfl, hw⟩ := hw
                obtain ⟨c_238, c_239⟩ := hw
                have hP := ro1 hP hk1
                refine lv_if_eq (tgt := 113) hx hb dX15_marchFinds_54 (by decide) (fun c_240 => ?_) (fun c_240 => ?_)
                · exact absurd c_240 (by decide)
                · refine lv_iload hx hb dX15_marchFinds_57 (lv_at hl 0 rfl) ?_
                  refine lv_if_eq (tgt := 77) hx hb dX15_marchFinds_59 (by decide) (fun c_241 => ?_) (fun c_241 => ?_)
                  · refine lv_iload_n hx hb dX15_marchFinds_77 rfl (lv_at hl 3 rfl) ?_
                    refine lv_bipush (v := 97) hx hb dX15_marchFinds_78 (by decide) ?_
                    refine lv_icmp_eq (tgt := 93) hx hb dX15_marchFinds_80 (by decide) (fun c_242 => ?_) (fun c_242 => ?_)
                    · exact absurd (c_223.symm.trans c_242) (by decide)
                    · refine lv_iload hx hb dX15_marchFinds_83 (lv_at hl 6 rfl) ?_
                      refine lv_iconst (v := 0) hx hb dX15_marchFinds_85 (by decide) ?_
                      refine lv_iconst (v := 1) hx hb dX15_marchFinds_86 (by decide) ?_
                      have hPc : va_P D vwCl [] _ := hP.sub (ws' := []) [] rfl
                      have hDc : va_D (fun q => z0 ≤ q) [] := (hD.to hAz).pick (ws' := []) [] (by decide) rfl
                      have hFc := AnA (ws := [((a 200), f_m a g)]) hS.1
                      refine va_calli (va_runS (As := [.int p3, .int 0, .int 1]) (rest := []) ⟨hx, hb, hml, hown, ht⟩ (k_X15_isBetween_v2 l D g z0 _ a p3) (va_cwS 3 ht (gS w_369 w_371 w_334 w_370) rfl rfl rfl (by decide +kernel) (le2 rfl rfl)) ⟨PP.blind, PP.mk' hK hZ hz hAz hS hPc hDc⟩ rfl rfl hl.1 rfl (lv_room (Nat.le_of_ble_eq_true rfl)) dX15_marchFinds_87 (le2 rfl rfl)) hS (fun q _ h => hFc q h) hFc (fun r u t H locs ht1 hvm hw hB hz1 hk1 hS => ?_)
                      rcases hw with hw | hw
                      · obtain ⟨rfl, hw⟩ := hw
                        rcases hw with hw | hw
                        · have c_243 := hw
                          have hP := ro1 hP hk1
                          refine lv_if_eq (tgt := 113) hx hb dX15_marchFinds_90 (by decide) (fun c_244 => ?_) (fun c_244 => ?_)
                          · refine lv_iconst (v := 0) hx hb dX15_marchFinds_113 (by decide) ?_
                            refine lv_istore (lv' := [(8, .int 0), (7, .int 0), (6, .int 1), (0, .ref (a 200)), (1, .int p0), (2, .int p1), (3, .int p2), (4, .int p3), (5, .int p4)]) hx hb dX15_marchFinds_114 hl (by decide) rfl (fun ls hl => ?_)
                            refine lv_aload_n hx hb dX15_marchFinds_116 rfl (lv_at hl 3 rfl) ?_
                            refine lv_iload hx hb dX15_marchFinds_117 (lv_at hl 0 rfl) ?_
                            refine lv_if_ne (tgt := 126) hx hb dX15_marchFinds_119 (by decide) (fun c_245 => ?_) (fun c_245 => ?_)
                            · exact absurd c_245 (by decide)
                            · refine lv_iconst (v := 1) hx hb dX15_marchFinds_122 (by decide) ?_
                              refine lv_goto (tgt := 138) hx hb dX15_marchFinds_123 (by decide) ?_
                              have hPc : va_P D vwCl [((a 200), f_m a g)] _ := hP.sub (ws' := [((a 200), f_m a g)]) [0] rfl
                              have hDc : va_D (fun q => z0 ≤ q) [((a 200), f_m a g)] := (hD.to hAz).pick (ws' := [((a 200), f_m a g)]) [0] (by decide) rfl
                              have hFc := va_free (wc := [((a 200), f_m a g)]) hD hS hA [0] rfl
                              refine va_calli (va_runV (As := [.int 1]) (rest := []) ⟨hx, hb, hml, hown, ht⟩ (k_X15_isWrong l D g z0 _ a) (cwV 1 ht (gV w_376 w_378 w_379 w_334 w_377) rfl rfl rfl (by decide +kernel) (le2 rfl rfl)) ⟨PP.blind, va_recv hK.1 hP (ci := 21) (q0 := 0) rfl rfl, PP.mk' hK hZ hz hAz hS hPc hDc⟩ rfl rfl hl.1 rfl (lv_room (Nat.le_of_ble_eq_true rfl)) dX15_marchFinds_138 (le2 rfl rfl)) hS (fun q _ h => hFc q h) hFc (fun r u t H locs ht1 hvm hw hB hz1 hk1 hS => ?_)
                              obtain ⟨rfl, hw⟩ := hw
                              obtain ⟨hP1, hD1⟩ := hB
                              rw [ht1] at hP1
                              obtain ⟨hP, hD⟩ := va_join (wr := []) (w1 := [((a 200), .inr (21, [.int 1, .ref (a 201), .ref (a 202), .ref (a 203), .ref (a 204), .ref (a 205), .ref (a 206), .int 0, .int 0, .int 0, .int 0, .ref (a 208), .ref (a 209), .ref (a 210), .ref (a 211), .ref (a 212), .int 4, .int 12, .int (-1), .int 0, .ref (g 200), .ref (a 213), .int 0, .int 97, .ref (a 214), .ref (a 215), .ref (a 207), .null, .int 0]))]) hP hD [0] [] rfl rfl (by decide) (by decide) hk1 hFc hP1 hD1
                              have hP : va_P D vwCl [((a 200), .inr (21, [.int 1, .ref (a 201), .ref (a 202), .ref (a 203), .ref (a 204), .ref (a 205), .ref (a 206), .int 0, .int 0, .int 0, .int 0, .ref (a 208), .ref (a 209), .ref (a 210), .ref (a 211), .ref (a 212), .int 4, .int 12, .int (-1), .int 0, .ref (g 200), .ref (a 213), .int 0, .int 97, .ref (a 214), .ref (a 215), .ref (a 207), .null, .int 0]))] H := hP
                              have hD : va_D (va_A [((a 200), f_m a g)] s.heap.size) [((a 200), .inr (21, [.int 1, .ref (a 201), .ref (a 202), .ref (a 203), .ref (a 204), .ref (a 205), .ref (a 206), .int 0, .int 0, .int 0, .int 0, .ref (a 208), .ref (a 209), .ref (a 210), .ref (a 211), .ref (a 212), .int 4, .int 12, .int (-1), .int 0, .ref (g 200), .ref (a 213), .int 0, .int 97, .ref (a 214), .ref (a 215), .ref (a 207), .null, .int 0]))] := hD
                              refine lv_if_eq (tgt := 146) hx hb dX15_marchFinds_141 (by decide) (fun c_246 => ?_) (fun c_246 => ?_)
                              · exact absurd c_246 (by decide)
                              · refine lv_iconst (v := 0) hx hb dX15_marchFinds_144 (by decide) ?_
                                have hP9 := hP.sub (ws' := [((a 200), .inr (21, [.int 1, .ref (a 201), .ref (a 202), .ref (a 203), .ref (a 204), .ref (a 205), .ref (a 206), .int 0, .int 0, .int 0, .int 0, .ref (a 208), .ref (a 209), .ref (a 210), .ref (a 211), .ref (a 212), .int 4, .int 12, .int (-1), .int 0, .ref (g 200), .ref (a 213), .int 0, .int 97, .ref (a 214), .ref (a 215), .ref (a 207), .null, .int 0]))]) [0] rfl
                                have hD9 := hD.sub (ws' := [((a 200), .inr (21, [.int 1, .ref (a 201), .ref (a 202), .ref (a 203), .ref (a 204), .ref (a 205), .ref (a 206), .int 0, .int 0, .int 0, .int 0, .ref (a 208), .ref (a 209), .ref (a 210), .ref (a 211), .ref (a 212), .int 4, .int 12, .int (-1), .int 0, .ref (g 200), .ref (a 213), .int 0, .int 97, .ref (a 214), .ref (a 215), .ref (a 207), .null, .int 0]))]) [0] (by decide) rfl
                                refine W.widen (k := 0) (n := 0) (Nat.le_of_ble_eq_true rfl) (Nat.le_of_ble_eq_true rfl) ?_
                                exact W.zret (v := 0) hx hb hr rfl (fun t ht9 hW9 => ⟨⟨0, 1, rfl, (Or.inl ⟨rfl, rfl, (Or.inr (Or.inr (Or.inr (Or.inr (Or.inr (Or.inr (Or.inr (Or.inr (Or.inr (Or.inr (Or.inr (Or.inr (Or.inr (Or.inr (Or.inr (Or.inr (Or.inr (Or.inr (Or.inr (Or.inr (Or.inr (Or.inr (Or.inr (Or.inr (Or.inr (Or.inr (Or.inr (Or.inr (Or.inr (Or.inr (Or.inl ⟨c_223, c_225, c_226, c_227, c_238, c_239, c_243⟩)))))))))))))))))))))))))))))))⟩), ⟨(by rw [ht9]; exact hP9), hD9⟩⟩, hS.F ht9⟩) hS.2.2 dX15_marchFinds_145 hlocks
                          · exact absurd c_244 (by decide)
                        · obtain ⟨c_247, c_248⟩ := hw
                          have hP := ro1 hP hk1
                          refine lv_if_eq (tgt := 113) hx hb dX15_marchFinds_90 (by decide) (fun c_249 => ?_) (fun c_249 => ?_)
                          · refine lv_iconst (v := 0) hx hb dX15_marchFinds_113 (by decide) ?_
                            refine lv_istore (lv' := [(8, .int 0), (7, .int 0), (6, .int 1), (0, .ref (a 200)), (1, .int p0), (2, .int p1), (3, .int p2), (4, .int p3), (5, .int p4)]) hx hb dX15_marchFinds_114 hl (by decide) rfl (fun ls hl => ?_)
                            refine lv_aload_n hx hb dX15_marchFinds_116 rfl (lv_at hl 3 rfl) ?_
                            refine lv_iload hx hb dX15_marchFinds_117 (lv_at hl 0 rfl) ?_
                            refine lv_if_ne (tgt := 126) hx hb dX15_marchFinds_119 (by decide) (fun c_250 => ?_) (fun c_250 => ?_)
                            · exact absurd c_250 (by decide)
                            · refine lv_iconst (v := 1) hx hb dX15_marchFinds_122 (by decide) ?_
                              refine lv_goto (tgt := 138) hx hb dX15_marchFinds_123 (by decide) ?_
                              have hPc : va_P D vwCl [((a 200), f_m a g)] _ := hP.sub (ws' := [((a 200), f_m a g)]) [0] rfl
                              have hDc : va_D (fun q => z0 ≤ q) [((a 200), f_m a g)] := (hD.to hAz).pick (ws' := [((a 200), f_m a g)]) [0] (by decide) rfl
                              have hFc := va_free (wc := [((a 200), f_m a g)]) hD hS hA [0] rfl
                              refine va_calli (va_runV (As := [.int 1]) (rest := []) ⟨hx, hb, hml, hown, ht⟩ (k_X15_isWrong l D g z0 _ a) (cwV 1 ht (gV w_376 w_378 w_379 w_334 w_377) rfl rfl rfl (by decide +kernel) (le2 rfl rfl)) ⟨PP.blind, va_recv hK.1 hP (ci := 21) (q0 := 0) rfl rfl, PP.mk' hK hZ hz hAz hS hPc hDc⟩ rfl rfl hl.1 rfl (lv_room (Nat.le_of_ble_eq_true rfl)) dX15_marchFinds_138 (le2 rfl rfl)) hS (fun q _ h => hFc q h) hFc (fun r u t H locs ht1 hvm hw hB hz1 hk1 hS => ?_)
                              obtain ⟨rfl, hw⟩ := hw
                              obtain ⟨hP1, hD1⟩ := hB
                              rw [ht1] at hP1
                              obtain ⟨hP, hD⟩ := va_join (wr := []) (w1 := [((a 200), .inr (21, [.int 1, .ref (a 201), .ref (a 202), .ref (a 203), .ref (a 204), .ref (a 205), .ref (a 206), .int 0, .int 0, .int 0, .int 0, .ref (a 208), .ref (a 209), .ref (a 210), .ref (a 211), .ref (a 212), .int 4, .int 12, .int (-1), .int 0, .ref (g 200), .ref (a 213), .int 0, .int 97, .ref (a 214), .ref (a 215), .ref (a 207), .null, .int 0]))]) hP hD [0] [] rfl rfl (by decide) (by decide) hk1 hFc hP1 hD1
                              have hP : va_P D vwCl [((a 200), .inr (21, [.int 1, .ref (a 201), .ref (a 202), .ref (a 203), .ref (a 204), .ref (a 205), .ref (a 206), .int 0, .int 0, .int 0, .int 0, .ref (a 208), .ref (a 209), .ref (a 210), .ref (a 211), .ref (a 212), .int 4, .int 12, .int (-1), .int 0, .ref (g 200), .ref (a 213), .int 0, .int 97, .ref (a 214), .ref (a 215), .ref (a 207), .null, .int 0]))] H := hP
                              have hD : va_D (va_A [((a 200), f_m a g)] s.heap.size) [((a 200), .inr (21, [.int 1, .ref (a 201), .ref (a 202), .ref (a 203), .ref (a 204), .ref (a 205), .ref (a 206), .int 0, .int 0, .int 0, .int 0, .ref (a 208), .ref (a 209), .ref (a 210), .ref (a 211), .ref (a 212), .int 4, .int 12, .int (-1), .int 0, .ref (g 200), .ref (a 213), .int 0, .int 97, .ref (a 214), .ref (a 215), .ref (a 207), .null, .int 0]))] := hD
                              refine lv_if_eq (tgt := 146) hx hb dX15_marchFinds_141 (by decide) (fun c_251 => ?_) (fun c_251 => ?_)
                              · exact absurd c_251 (by decide)
                              · refine lv_iconst (v := 0) hx hb dX15_marchFinds_144 (by decide) ?_
                                have hP9 := hP.sub (ws' := [((a 200), .inr (21, [.int 1, .ref (a 201), .ref (a 202), .ref (a 203), .ref (a 204), .ref (a 205), .ref (a 206), .int 0, .int 0, .int 0, .int 0, .ref (a 208), .ref (a 209), .ref (a 210), .ref (a 211), .ref (a 212), .int 4, .int 12, .int (-1), .int 0, .ref (g 200), .ref (a 213), .int 0, .int 97, .ref (a 214), .ref (a 215), .ref (a 207), .null, .int 0]))]) [0] rfl
                                have hD9 := hD.sub (ws' := [((a 200), .inr (21, [.int 1, .ref (a 201), .ref (a 202), .ref (a 203), .ref (a 204), .ref (a 205), .ref (a 206), .int 0, .int 0, .int 0, .int 0, .ref (a 208), .ref (a 209), .ref (a 210), .ref (a 211), .ref (a 212), .int 4, .int 12, .int (-1), .int 0, .ref (g 200), .ref (a 213), .int 0, .int 97, .ref (a 214), .ref (a 215), .ref (a 207), .null, .int 0]))]) [0] (by decide) rfl
                                refine W.widen (k := 0) (n := 0) (Nat.le_of_ble_eq_true rfl) (Nat.le_of_ble_eq_true rfl) ?_
                                exact W.zret (v := 0) hx hb hr rfl (fun t ht9 hW9 => ⟨⟨0, 1, rfl, (Or.inl ⟨rfl, rfl, (Or.inr (Or.inr (Or.inr (Or.inr (Or.inr (Or.inr (Or.inr (Or.inr (Or.inr (Or.inr (Or.inr (Or.inr (Or.inr (Or.inr (Or.inr (Or.inr (Or.inr (Or.inr (Or.inr (Or.inr (Or.inr (Or.inr (Or.inr (Or.inr (Or.inr (Or.inr (Or.inr (Or.inr (Or.inr (Or.inr (Or.inr ⟨c_223, c_225, c_226, c_227, c_238, c_239, c_247, c_248⟩)))))))))))))))))))))))))))))))⟩), ⟨(by rw [ht9]; exact hP9), hD9⟩⟩, hS.F ht9⟩) hS.2.2 dX15_marchFinds_145 hlocks
                          · exact absurd c_249 (by decide)
                      · obtain ⟨rfl, hw⟩ := hw
                        obtain ⟨c_252, c_253⟩ := hw
                        have hP := ro1 hP hk1
                        refine lv_if_eq (tgt := 113) hx hb dX15_marchFinds_90 (by decide) (fun c_254 => ?_) (fun c_254 => ?_)
                        · exact absurd c_254 (by decide)
                        · refine lv_iload_n hx hb dX15_marchFinds_93 rfl (lv_at hl 3 rfl) ?_
                          refine lv_bipush (v := 99) hx hb dX15_marchFinds_94 (by decide) ?_
                          refine lv_icmp_ne (tgt := 109) hx hb dX15_marchFinds_96 (by decide) (fun c_255 => ?_) (fun c_255 => ?_)
                          · refine lv_iconst (v := 1) hx hb dX15_marchFinds_109 (by decide) ?_
                            refine lv_goto (tgt := 114) hx hb dX15_marchFinds_110 (by decide) ?_
                            refine lv_istore (lv' := [(8, .int 1), (7, .int 0), (6, .int 1), (0, .ref (a 200)), (1, .int p0), (2, .int p1), (3, .int p2), (4, .int p3), (5, .int p4)]) hx hb dX15_marchFinds_114 hl (by decide) rfl (fun ls hl => ?_)
                            refine lv_aload_n hx hb dX15_marchFinds_116 rfl (lv_at hl 3 rfl) ?_
                            refine lv_iload hx hb dX15_marchFinds_117 (lv_at hl 0 rfl) ?_
                            refine lv_if_ne (tgt := 126) hx hb dX15_marchFinds_119 (by decide) (fun c_256 => ?_) (fun c_256 => ?_)
                            · refine lv_aload_n hx hb dX15_marchFinds_126 rfl (lv_at hl 3 rfl) ?_
                              have hPc : va_P D vwCl [((a 200), f_m a g)] _ := hP.sub (ws' := [((a 200), f_m a g)]) [0] rfl
                              have hDc : va_D (fun q => z0 ≤ q) [((a 200), f_m a g)] := (hD.to hAz).pick (ws' := [((a 200), f_m a g)]) [0] (by decide) rfl
                              have hFc := AnA (ws := [((a 200), f_m a g)]) hS.1
                              refine va_calli (va_runV (As := []) (rest := [.ref (a 200)]) ⟨hx, hb, hml, hown, ht⟩ (k_X15_isRightNow l D g z0 _ a) (cwV 0 ht (gV w_514 w_516 w_517 w_334 w_515) rfl rfl rfl (by decide +kernel) (le2 rfl rfl)) ⟨PP.blind, va_recv hK.1 hP (ci := 21) (q0 := 0) rfl rfl, PP.mk' hK hZ hz hAz hS hPc hDc⟩ rfl rfl hl.1 rfl (lv_room (Nat.le_of_ble_eq_true rfl)) dX15_marchFinds_127 (le2 rfl rfl)) hS (fun q _ h => hFc q h) hFc (fun r u t H locs ht1 hvm hw hB hz1 hk1 hS => ?_)
                              obtain ⟨rfl, hw⟩ := hw
                              have hP := ro1 hP hk1
                              refine lv_if_ne (tgt := 137) hx hb dX15_marchFinds_130 (by decide) (fun c_257 => ?_) (fun c_257 => ?_)
                              · exact absurd c_257 (by decide)
                              · refine lv_iconst (v := 2) hx hb dX15_marchFinds_133 (by decide) ?_
                                refine lv_goto (tgt := 138) hx hb dX15_marchFinds_134 (by decide) ?_
                                have hPc : va_P D vwCl [((a 200), f_m a g)] _ := hP.sub (ws' := [((a 200), f_m a g)]) [0] rfl
                                have hDc : va_D (fun q => z0 ≤ q) [((a 200), f_m a g)] := (hD.to hAz).pick (ws' := [((a 200), f_m a g)]) [0] (by decide) rfl
                                have hFc := va_free (wc := [((a 200), f_m a g)]) hD hS hA [0] rfl
                                refine va_calli (va_runV (As := [.int 2]) (rest := []) ⟨hx, hb, hml, hown, ht⟩ (k_X15_isWrong_v2 l D g z0 _ a) (cwV 1 ht (gV w_376 w_378 w_379 w_334 w_377) rfl rfl rfl (by decide +kernel) (le2 rfl rfl)) ⟨PP.blind, va_recv hK.1 hP (ci := 21) (q0 := 0) rfl rfl, PP.mk' hK hZ hz hAz hS hPc hDc⟩ rfl rfl hl.1 rfl (lv_room (Nat.le_of_ble_eq_true rfl)) dX15_marchFinds_138 (le2 rfl rfl)) hS (fun q _ h => hFc q h) hFc (fun r u t H locs ht1 hvm hw hB hz1 hk1 hS => ?_)
                                obtain ⟨rfl, hw⟩ := hw
                                obtain ⟨hP1, hD1⟩ := hB
                                rw [ht1] at hP1
                                obtain ⟨hP, hD⟩ := va_join (wr := []) (w1 := [((a 200), .inr (21, [.int 2, .ref (a 201), .ref (a 202), .ref (a 203), .ref (a 204), .ref (a 205), .ref (a 206), .int 0, .int 0, .int 0, .int 0, .ref (a 208), .ref (a 209), .ref (a 210), .ref (a 211), .ref (a 212), .int 4, .int 12, .int (-1), .int 0, .ref (g 200), .ref (a 213), .int 0, .int 97, .ref (a 214), .ref (a 215), .ref (a 207), .null, .int 0]))]) hP hD [0] [] rfl rfl (by decide) (by decide) hk1 hFc hP1 hD1
                                have hP : va_P D vwCl [((a 200), .inr (21, [.int 2, .ref (a 201), .ref (a 202), .ref (a 203), .ref (a 204), .ref (a 205), .ref (a 206), .int 0, .int 0, .int 0, .int 0, .ref (a 208), .ref (a 209), .ref (a 210), .ref (a 211), .ref (a 212), .int 4, .int 12, .int (-1), .int 0, .ref (g 200), .ref (a 213), .int 0, .int 97, .ref (a 214), .ref (a 215), .ref (a 207), .null, .int 0]))] H := hP
                                have hD : va_D (va_A [((a 200), f_m a g)] s.heap.size) [((a 200), .inr (21, [.int 2, .ref (a 201), .ref (a 202), .ref (a 203), .ref (a 204), .ref (a 205), .ref (a 206), .int 0, .int 0, .int 0, .int 0, .ref (a 208), .ref (a 209), .ref (a 210), .ref (a 211), .ref (a 212), .int 4, .int 12, .int (-1), .int 0, .ref (g 200), .ref (a 213), .int 0, .int 97, .ref (a 214), .ref (a 215), .ref (a 207), .null, .int 0]))] := hD
                                refine lv_if_eq (tgt := 146) hx hb dX15_marchFinds_141 (by decide) (fun c_258 => ?_) (fun c_258 => ?_)
                                · exact absurd c_258 (by decide)
                                · refine lv_iconst (v := 0) hx hb dX15_marchFinds_144 (by decide) ?_
                                  have hP9 := hP.sub (ws' := [((a 200), .inr (21, [.int 2, .ref (a 201), .ref (a 202), .ref (a 203), .ref (a 204), .ref (a 205), .ref (a 206), .int 0, .int 0, .int 0, .int 0, .ref (a 208), .ref (a 209), .ref (a 210), .ref (a 211), .ref (a 212), .int 4, .int 12, .int (-1), .int 0, .ref (g 200), .ref (a 213), .int 0, .int 97, .ref (a 214), .ref (a 215), .ref (a 207), .null, .int 0]))]) [0] rfl
                                  have hD9 := hD.sub (ws' := [((a 200), .inr (21, [.int 2, .ref (a 201), .ref (a 202), .ref (a 203), .ref (a 204), .ref (a 205), .ref (a 206), .int 0, .int 0, .int 0, .int 0, .ref (a 208), .ref (a 209), .ref (a 210), .ref (a 211), .ref (a 212), .int 4, .int 12, .int (-1), .int 0, .ref (g 200), .ref (a 213), .int 0, .int 97, .ref (a 214), .ref (a 215), .ref (a 207), .null, .int 0]))]) [0] (by decide) rfl
                                  refine W.widen (k := 0) (n := 0) (Nat.le_of_ble_eq_true rfl) (Nat.le_of_ble_eq_true rfl) ?_
                                  exact W.zret (v := 0) hx hb hr rfl (fun t ht9 hW9 => ⟨⟨0, 2, rfl, (Or.inr ⟨rfl, rfl, (Or.inr (Or.inr (Or.inr (Or.inr ⟨c_223, c_225, c_226, c_227, c_238, c_239, c_252, c_253⟩))))⟩), ⟨(by rw [ht9]; exact hP9), hD9⟩⟩, hS.F ht9⟩) hS.2.2 dX15_marchFinds_145 hlocks
                            · exact absurd c_256 (by decide)
                          · exact absurd (c_223.symm.trans c_255) (by decide)
                  · exact absurd c_241 (by decide)
          · exact absurd (c_223.symm.trans c_227) (by decide)
