def gk2 (x : Int32) : Prop := x = 97 ∨ x = 110 ∨ x = 111 ∨ x = 114 ∨ x = 120
def gk1 (x : Int32) : Prop := x = 98 ∨ x = 118
set_option maxHeartbeats 4000000 in
set_option maxRecDepth 100000 in
theorem k_X6_pinsOfKind (l : Launch) (D : va_G) (g : Nat → ClassId) (z0 sz : Nat) (p0 : Int32) : Met l yX6_pinsOfKind (.code yX6_pinsOfKind cX6_pinsOfKind 1 (some .int) :: TG) (rmk 0 0 0 0) (va_Pc [.int p0] (PP D g z0 sz [])) (va_Qi (fun (r : Int32) (_ : Unit) => (r = 2 ∧ gk2 p0) ∨ (r = 1 ∧ gk1 p0) ∨ (r = 0 ∧ ¬ gk2 p0 ∧ ¬ gk1 p0)) (fun (_ : Unit) (_ : State) => True) (va_A [] sz)) 0 0 (va_A [] sz) := by
  refine met0 (cc := cX6_pinsOfKind) (n := 1) (by decide) (Nat.le_of_ble_eq_true rfl) ?_
  intro p e s m args below meth c hx hb hr hml hown ht hlocks hnm hP0 hD0 hK hZ hsz hz ls hl
  subst hsz
  have hS : va_S (va_A [] s.heap.size) s.heap s.heap [] := va_S.rf
  have hl : lv_has ls 1 [(0, .int p0)] := hl
  refine lv_iload_n hx hb dX6_pinsOfKind_0 rfl (lv_at hl 0 rfl) ?_
  have e2 : ¬ gk2 p0 → ¬ gk1 p0 → W p l e (rmk 0 0 0 0) s m args below meth c s.heap [] 0 0 (MQ below (va_Qi (fun (r : Int32) (_ : Unit) => (r = 2 ∧ gk2 p0) ∨ (r = 1 ∧ gk1 p0) ∨ (r = 0 ∧ ¬ gk2 p0 ∧ ¬ gk1 p0)) (fun (_ : Unit) (_ : State) => True) (va_A [] s.heap.size)) args s 0 0 (va_A [] s.heap.size)) (F0 m 116 ls []) := by
    intro h2 h1
    refine lv_iconst (v := 0) hx hb dX6_pinsOfKind_116 (by decide) ?_
    exact W.iret (v := 0) hx hb hr (fun t ht9 hW9 => ⟨⟨0, (), rfl, Or.inr (Or.inr ⟨rfl, h2, h1⟩), trivial⟩, hS.F ht9⟩) hS.2.2 dX6_pinsOfKind_117 hlocks
  have e1 : gk1 p0 → W p l e (rmk 0 0 0 0) s m args below meth c s.heap [] 0 0 (MQ below (va_Qi (fun (r : Int32) (_ : Unit) => (r = 2 ∧ gk2 p0) ∨ (r = 1 ∧ gk1 p0) ∨ (r = 0 ∧ ¬ gk2 p0 ∧ ¬ gk1 p0)) (fun (_ : Unit) (_ : State) => True) (va_A [] s.heap.size)) args s 0 0 (va_A [] s.heap.size)) (F0 m 114 ls []) := by
    intro h1
    refine lv_iconst (v := 1) hx hb dX6_pinsOfKind_114 (by decide) ?_
    exact W.iret (v := 1) hx hb hr (fun t ht9 hW9 => ⟨⟨1, (), rfl, Or.inr (Or.inl ⟨rfl, h1⟩), trivial⟩, hS.F ht9⟩) hS.2.2 dX6_pinsOfKind_115 hlocks
  have e0 : gk2 p0 → W p l e (rmk 0 0 0 0) s m args below meth c s.heap [] 0 0 (MQ below (va_Qi (fun (r : Int32) (_ : Unit) => (r = 2 ∧ gk2 p0) ∨ (r = 1 ∧ gk1 p0) ∨ (r = 0 ∧ ¬ gk2 p0 ∧ ¬ gk1 p0)) (fun (_ : Unit) (_ : State) => True) (va_A [] s.heap.size)) args s 0 0 (va_A [] s.heap.size)) (F0 m 112 ls []) := by
    intro h1
    refine lv_iconst (v := 2) hx hb dX6_pinsOfKind_112 (by decide) ?_
    exact W.iret (v := 2) hx hb hr (fun t ht9 hW9 => ⟨⟨2, (), rfl, Or.inl ⟨rfl, h1⟩, trivial⟩, hS.F ht9⟩) hS.2.2 dX6_pinsOfKind_113 hlocks
  by_cases c1 : p0 < 97
  · refine lv_tableOut (tgt := 116) hx hb dX6_pinsOfKind_1 (Or.inl (Int32.lt_iff_toInt_lt.mp c1)) (by decide) ?_
    refine e2 (fun h => ?_) (fun h => ?_)
    · unfold gk2 at h
      rcases h with h | h | h | h | h <;> (subst h; exact absurd c1 (by decide))
    · unfold gk1 at h
      rcases h with h | h <;> (subst h; exact absurd c1 (by decide))
  by_cases c2 : 120 < p0
  · refine lv_tableOut (tgt := 116) hx hb dX6_pinsOfKind_1 (Or.inr (Int32.lt_iff_toInt_lt.mp c2)) (by decide) ?_
    refine e2 (fun h => ?_) (fun h => ?_)
    · unfold gk2 at h
      rcases h with h | h | h | h | h <;> (subst h; exact absurd c2 (by decide))
    · unfold gk1 at h
      rcases h with h | h <;> (subst h; exact absurd c2 (by decide))
  obtain ⟨j, j1, j2, rfl⟩ := sw_j (a := 97) (b := 120) (by decide) (by decide) c1 c2
  rcases (show j = 97 ∨ j = 98 ∨ j = 99 ∨ j = 100 ∨ j = 101 ∨ j = 102 ∨ j = 103 ∨ j = 104 ∨ j = 105 ∨ j = 106 ∨ j = 107 ∨ j = 108 ∨ j = 109 ∨ j = 110 ∨ j = 111 ∨ j = 112 ∨ j = 113 ∨ j = 114 ∨ j = 115 ∨ j = 116 ∨ j = 117 ∨ j = 118 ∨ j = 119 ∨ j = 120 by omega) with rfl | rfl | rfl | rfl | rfl | rfl | rfl | rfl | rfl | rfl | rfl | rfl | rfl | rfl | rfl | rfl | rfl | rfl | rfl | rfl | rfl | rfl | rfl | rfl
  · refine lv_tableIn (off := 111) (tgt := 112) hx hb dX6_pinsOfKind_1 (by decide) (by decide) (by decide) (by decide) ?_
    exact e0 (by unfold gk2; decide)
  · refine lv_tableIn (off := 113) (tgt := 114) hx hb dX6_pinsOfKind_1 (by decide) (by decide) (by decide) (by decide) ?_
    exact e1 (by unfold gk1; decide)
  · refine lv_tableIn (off := 115) (tgt := 116) hx hb dX6_pinsOfKind_1 (by decide) (by decide) (by decide) (by decide) ?_
    exact e2 (by unfold gk2; decide) (by unfold gk1; decide)
  · refine lv_tableIn (off := 115) (tgt := 116) hx hb dX6_pinsOfKind_1 (by decide) (by decide) (by decide) (by decide) ?_
    exact e2 (by unfold gk2; decide) (by unfold gk1; decide)
  · refine lv_tableIn (off := 115) (tgt := 116) hx hb dX6_pinsOfKind_1 (by decide) (by decide) (by decide) (by decide) ?_
    exact e2 (by unfold gk2; decide) (by unfold gk1; decide)
  · refine lv_tableIn (off := 115) (tgt := 116) hx hb dX6_pinsOfKind_1 (by decide) (by decide) (by decide) (by decide) ?_
    exact e2 (by unfold gk2; decide) (by unfold gk1; decide)
  · refine lv_tableIn (off := 115) (tgt := 116) hx hb dX6_pinsOfKind_1 (by decide) (by decide) (by decide) (by decide) ?_
    exact e2 (by unfold gk2; decide) (by unfold gk1; decide)
  · refine lv_tableIn (off := 115) (tgt := 116) hx hb dX6_pinsOfKind_1 (by decide) (by decide) (by decide) (by decide) ?_
    exact e2 (by unfold gk2; decide) (by unfold gk1; decide)
  · refine lv_tableIn (off := 115) (tgt := 116) hx hb dX6_pinsOfKind_1 (by decide) (by decide) (by decide) (by decide) ?_
    exact e2 (by unfold gk2; decide) (by unfold gk1; decide)
  · refine lv_tableIn (off := 115) (tgt := 116) hx hb dX6_pinsOfKind_1 (by decide) (by decide) (by decide) (by decide) ?_
    exact e2 (by unfold gk2; decide) (by unfold gk1; decide)
  · refine lv_tableIn (off := 115) (tgt := 116) hx hb dX6_pinsOfKind_1 (by decide) (by decide) (by decide) (by decide) ?_
    exact e2 (by unfold gk2; decide) (by unfold gk1; decide)
  · refine lv_tableIn (off := 115) (tgt := 116) hx hb dX6_pinsOfKind_1 (by decide) (by decide) (by decide) (by decide) ?_
    exact e2 (by unfold gk2; decide) (by unfold gk1; decide)
  · refine lv_tableIn (off := 115) (tgt := 116) hx hb dX6_pinsOfKind_1 (by decide) (by decide) (by decide) (by decide) ?_
    exact e2 (by unfold gk2; decide) (by unfold gk1; decide)
  · refine lv_tableIn (off := 111) (tgt := 112) hx hb dX6_pinsOfKind_1 (by decide) (by decide) (by decide) (by decide) ?_
    exact e0 (by unfold gk2; decide)
  · refine lv_tableIn (off := 111) (tgt := 112) hx hb dX6_pinsOfKind_1 (by decide) (by decide) (by decide) (by decide) ?_
    exact e0 (by unfold gk2; decide)
  · refine lv_tableIn (off := 115) (tgt := 116) hx hb dX6_pinsOfKind_1 (by decide) (by decide) (by decide) (by decide) ?_
    exact e2 (by unfold gk2; decide) (by unfold gk1; decide)
  · refine lv_tableIn (off := 115) (tgt := 116) hx hb dX6_pinsOfKind_1 (by decide) (by decide) (by decide) (by decide) ?_
    exact e2 (by unfold gk2; decide) (by unfold gk1; decide)
  · refine lv_tableIn (off := 111) (tgt := 112) hx hb dX6_pinsOfKind_1 (by decide) (by decide) (by decide) (by decide) ?_
    exact e0 (by unfold gk2; decide)
  · refine lv_tableIn (off := 115) (tgt := 116) hx hb dX6_pinsOfKind_1 (by decide) (by decide) (by decide) (by decide) ?_
    exact e2 (by unfold gk2; decide) (by unfold gk1; decide)
  · refine lv_tableIn (off := 115) (tgt := 116) hx hb dX6_pinsOfKind_1 (by decide) (by decide) (by decide) (by decide) ?_
    exact e2 (by unfold gk2; decide) (by unfold gk1; decide)
  · refine lv_tableIn (off := 115) (tgt := 116) hx hb dX6_pinsOfKind_1 (by decide) (by decide) (by decide) (by decide) ?_
    exact e2 (by unfold gk2; decide) (by unfold gk1; decide)
  · refine lv_tableIn (off := 113) (tgt := 114) hx hb dX6_pinsOfKind_1 (by decide) (by decide) (by decide) (by decide) ?_
    exact e1 (by unfold gk1; decide)
  · refine lv_tableIn (off := 115) (tgt := 116) hx hb dX6_pinsOfKind_1 (by decide) (by decide) (by decide) (by decide) ?_
    exact e2 (by unfold gk2; decide) (by unfold gk1; decide)
  · refine lv_tableIn (off := 111) (tgt := 112) hx hb dX6_pinsOfKind_1 (by decide) (by decide) (by decide) (by decide) ?_
    exact e0 (by unfold gk2; decide)
def zBits (p0 : Int32) : Int32 := (((((((p0 - (((p0.toUInt32 >>> ((1 : Int32).toUInt32 &&& Int32.toUInt32 31)).toInt32) &&& 1431655765)) &&& 858993459) + ((((p0 - (((p0.toUInt32 >>> ((1 : Int32).toUInt32 &&& Int32.toUInt32 31)).toInt32) &&& 1431655765)).toUInt32 >>> ((2 : Int32).toUInt32 &&& Int32.toUInt32 31)).toInt32) &&& 858993459)) + (((((p0 - (((p0.toUInt32 >>> ((1 : Int32).toUInt32 &&& Int32.toUInt32 31)).toInt32) &&& 1431655765)) &&& 858993459) + ((((p0 - (((p0.toUInt32 >>> ((1 : Int32).toUInt32 &&& Int32.toUInt32 31)).toInt32) &&& 1431655765)).toUInt32 >>> ((2 : Int32).toUInt32 &&& Int32.toUInt32 31)).toInt32) &&& 858993459)).toUInt32 >>> ((4 : Int32).toUInt32 &&& Int32.toUInt32 31)).toInt32)) &&& 252645135) + (((((((p0 - (((p0.toUInt32 >>> ((1 : Int32).toUInt32 &&& Int32.toUInt32 31)).toInt32) &&& 1431655765)) &&& 858993459) + ((((p0 - (((p0.toUInt32 >>> ((1 : Int32).toUInt32 &&& Int32.toUInt32 31)).toInt32) &&& 1431655765)).toUInt32 >>> ((2 : Int32).toUInt32 &&& Int32.toUInt32 31)).toInt32) &&& 858993459)) + (((((p0 - (((p0.toUInt32 >>> ((1 : Int32).toUInt32 &&& Int32.toUInt32 31)).toInt32) &&& 1431655765)) &&& 858993459) + ((((p0 - (((p0.toUInt32 >>> ((1 : Int32).toUInt32 &&& Int32.toUInt32 31)).toInt32) &&& 1431655765)).toUInt32 >>> ((2 : Int32).toUInt32 &&& Int32.toUInt32 31)).toInt32) &&& 858993459)).toUInt32 >>> ((4 : Int32).toUInt32 &&& Int32.toUInt32 31)).toInt32)) &&& 252645135).toUInt32 >>> ((8 : Int32).toUInt32 &&& Int32.toUInt32 31)).toInt32)) + ((((((((p0 - (((p0.toUInt32 >>> ((1 : Int32).toUInt32 &&& Int32.toUInt32 31)).toInt32) &&& 1431655765)) &&& 858993459) + ((((p0 - (((p0.toUInt32 >>> ((1 : Int32).toUInt32 &&& Int32.toUInt32 31)).toInt32) &&& 1431655765)).toUInt32 >>> ((2 : Int32).toUInt32 &&& Int32.toUInt32 31)).toInt32) &&& 858993459)) + (((((p0 - (((p0.toUInt32 >>> ((1 : Int32).toUInt32 &&& Int32.toUInt32 31)).toInt32) &&& 1431655765)) &&& 858993459) + ((((p0 - (((p0.toUInt32 >>> ((1 : Int32).toUInt32 &&& Int32.toUInt32 31)).toInt32) &&& 1431655765)).toUInt32 >>> ((2 : Int32).toUInt32 &&& Int32.toUInt32 31)).toInt32) &&& 858993459)).toUInt32 >>> ((4 : Int32).toUInt32 &&& Int32.toUInt32 31)).toInt32)) &&& 252645135) + (((((((p0 - (((p0.toUInt32 >>> ((1 : Int32).toUInt32 &&& Int32.toUInt32 31)).toInt32) &&& 1431655765)) &&& 858993459) + ((((p0 - (((p0.toUInt32 >>> ((1 : Int32).toUInt32 &&& Int32.toUInt32 31)).toInt32) &&& 1431655765)).toUInt32 >>> ((2 : Int32).toUInt32 &&& Int32.toUInt32 31)).toInt32) &&& 858993459)) + (((((p0 - (((p0.toUInt32 >>> ((1 : Int32).toUInt32 &&& Int32.toUInt32 31)).toInt32) &&& 1431655765)) &&& 858993459) + ((((p0 - (((p0.toUInt32 >>> ((1 : Int32).toUInt32 &&& Int32.toUInt32 31)).toInt32) &&& 1431655765)).toUInt32 >>> ((2 : Int32).toUInt32 &&& Int32.toUInt32 31)).toInt32) &&& 858993459)).toUInt32 >>> ((4 : Int32).toUInt32 &&& Int32.toUInt32 31)).toInt32)) &&& 252645135).toUInt32 >>> ((8 : Int32).toUInt32 &&& Int32.toUInt32 31)).toInt32)).toUInt32 >>> ((16 : Int32).toUInt32 &&& Int32.toUInt32 31)).toInt32)) &&& 63
theorem zBits_nn (x : Int32) : (0 : Int32) ≤ zBits x + 0 := by
  have h : ∀ y : Int32, (0 : Int32) ≤ y &&& 63 := by
    intro y
    obtain ⟨j, hj, e⟩ := pk_andE y (m := 63) 6 (by decide)
    rw [e]
    exact nI_le (Nat.zero_le j) (by omega)
  rw [Int32.add_zero]
  exact h _
