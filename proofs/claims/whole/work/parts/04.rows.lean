section RW0
variable {p : Program} {l : Launch} {e : Env} {R : Room} {s : State} {m : MethodId} {args : Array Value} {below : List Frame} {meth : Method} {c : Code} {H : Heap} {locs : List Loc} {cells slots : Nat} {Q : State → Prop}
variable {pc : Nat} {ls : Array Slot} {rest : List Value} {cc : ByteArray} {A : Nat → Prop} {D : va_G} {g : Nat → ClassId} {z0 : Nat}
theorem r_topi {x v : Int32} (h : x = v) (k : W p l e R s m args below meth c H locs cells slots Q (F0 m pc ls (.int v :: rest))) : W p l e R s m args below meth c H locs cells slots Q (F0 m pc ls (.int x :: rest)) := h ▸ k
theorem r_topl {x v : Int64} (h : x = v) (k : W p l e R s m args below meth c H locs cells slots Q (F0 m pc ls (.long v :: rest))) : W p l e R s m args below meth c H locs cells slots Q (F0 m pc ls (.long x :: rest)) := h ▸ k
theorem fT {A : Nat → Prop} {t : State} (hS : va_S A s.heap H locs) (h1 : H.size ≤ t.heap.size) (h2 : ∀ q : Nat, q < H.size → t.heap[q]? = H[q]?) : va_F A s t :=
  ⟨Nat.le_trans hS.1 h1, fun q hq hn => (h2 q (Nat.lt_of_lt_of_le hq hS.1)).trans (hS.2.1 q hq hn)⟩
/-- throw new X(), out of a method without handlers -/
theorem thr0 {own cls : String} {names : List String} {ik ic mc ms n : Nat} {free : Addr → Prop} {Qc : Array Value → State → Outcome → State → Prop} {XC : String → State → State → Prop} {lv : List (Nat × Value)}
    (hx : p.tables.exec = Jvm.exec) (hb : c.code = cc) (hfl : l.stackTraces = false) (hown : s.vm.findClass own = some m.cls) (ht : ∀ w ∈ TG, w.before args s = true) (hNW : NW g s) (hZ : ZZ g z0 s) (hAz : ∀ q, A q → z0 ≤ q) (hS : va_S A s.heap H locs) (hl : lv_has ls n lv) (hml : c.maxLocals = n) (htab : ∀ x ∈ c.exceptionTable.toList, False) (hlocks : meth.locks = false)
    (hfit : (Bundle.fit cls && names.all Bundle.fit) = true) (hk : Cond.classLink own ik cls ∈ TG) (hini : Cond.initialized cls ∈ TG) (hat : ∀ w ∈ vx_at0 own ic cls names, w ∈ TG ∨ w ∈ NWL)
    (d0 : decode cc pc = .ok (.new ik, 3)) (d3 : decode cc (pc + 3) = .ok (.dup, 1)) (d4 : decode cc (pc + 4) = .ok (.invokespecial ic, 3)) (d7 : decode cc (pc + 7) = .ok (.athrow, 1))
    (hR1 : Nat.ble (names.length + 4) R.frames = true) (hR2 : Nat.ble ((rest.map fun v => v.category).sum + (13 * (names.length + 1) + 42)) R.locals = true) (hR3 : Nat.ble (cells + 1) R.cells = true) (hR4 : Nat.ble (slots + 6) R.slots = true)
    (hX : ∀ t : State, s.vm.Alike t.vm → va_F A s t → XC cls s t) (hf : ∀ q, A q → free q) (hc : Nat.ble (cells + 1) mc = true) (hs : Nat.ble (slots + 6) ms = true) :
    W p l e R s m args below meth c H locs cells slots (vx_MQ below Qc XC args s mc ms free) (F0 m pc ls rest) := by
  simp only [Bool.and_eq_true, List.all_eq_true] at hfit
  refine vx_throw0 hx hb hfl hown hfit.1 hfit.2 (ht _ hk) (ht _ hini) (fun w h => (hat w h).elim (ht w) (fun h => hNW.use h)) (fun w h => ?_) (hZ.1.narrow hAz) (hZ.2.1.narrow hAz) hS (hl.1.trans hml.symm) d0 d3 d4 d7 (fun x hx => (htab x hx).elim) (Nat.le_of_ble_eq_true hR1) (Nat.le_of_ble_eq_true hR2) (Nat.le_of_ble_eq_true hR3) (Nat.le_of_ble_eq_true hR4) hlocks (fun t hvm h1 h2 => hX t hvm (fT hS h1 h2)) (fun z hz => hf _ (hS.2.2 z hz)) (Nat.le_of_ble_eq_true hc) (Nat.le_of_ble_eq_true hs)
  have hT : w ∈ TG ∨ w ∈ NWL := by
    rcases List.mem_cons.mp h with h | h
    · rw [h]; exact Or.inl hk
    · rcases List.mem_cons.mp h with h | h
      · rw [h]; exact Or.inl hini
      · exact hat w h
  unfold vx_ot
  rcases hT with hT | hT
  · rw [TG_good w hT, Bool.or_true]
  · rw [nw_tab (List.mem_filter.mp hT).2, Bool.true_or]
/-- what a callee threw goes on to the caller's caller -/
theorem out0 {E : String} {ce : Cell} {q : Addr} {mc ms : Nat} {free : Addr → Prop} {Qc : Array Value → State → Outcome → State → Prop} {XC : String → State → State → Prop}
    (htab : ∀ x ∈ c.exceptionTable.toList, False) (hlocks : meth.locks = false) (hS : va_S A s.heap H locs) (hcell : H[q]? = some ce) (hv : ce.vm = .none) (hcl : s.vm.findClass E = some ce.cls)
    (hX : ∀ t : State, s.vm.Alike t.vm → va_F A s t → XC E s t) (hf : ∀ q, A q → free q) (hc : Nat.ble cells mc = true) (hs : Nat.ble slots ms = true) :
    vx_W p l e R s m args below meth c H locs cells slots (vx_MQ below Qc XC args s mc ms free) (F0 m pc ls rest) q :=
  vx_out (fun x hx => (htab x hx).elim) hlocks hcell hv hcl (fun t hT hvm => hX t hvm (hS.F hT)) (fun z hz => hf _ (hS.2.2 z hz)) (Nat.le_of_ble_eq_true hc) (Nat.le_of_ble_eq_true hs)
end RW0
theorem le2 {a b c d : Nat} (h1 : Nat.ble a b = true) (h2 : Nat.ble c d = true) : a ≤ b ∧ c ≤ d := ⟨Nat.le_of_ble_eq_true h1, Nat.le_of_ble_eq_true h2⟩
theorem comb {D : va_G} {cl : List vw_C} {ro rw : va_W} {H0 : Heap} {z0 : Nat} (hz : z0 ≤ H0.size) (hP : va_P D cl ro H0) (hD : va_D (fun q => z0 ≤ q) ro) (hn : va_D (va_A [] H0.size) rw) : va_D (fun q => z0 ≤ q) (ro ++ rw) := by
  have h0 : ∀ (k : Nat) (q : Nat × va_E), rw[k]? = some q → H0.size ≤ q.1 := fun k q hq => by
    rcases hn.2 k q hq with ⟨k9, e9, h9⟩ | h9
    · simp at h9
    · exact h9
  refine ⟨fun i j p q hi hj he => ?_, fun k q hq => ?_⟩
  · by_cases h1 : i < ro.length <;> by_cases h2 : j < ro.length
    · rw [List.getElem?_append_left h1] at hi
      rw [List.getElem?_append_left h2] at hj
      exact hD.1 i j p q hi hj he
    · rw [List.getElem?_append_left h1] at hi
      rw [List.getElem?_append_right (by omega)] at hj
      have a1 := (hP i p hi).lt
      have a2 := h0 _ _ hj
      omega
    · rw [List.getElem?_append_right (by omega)] at hi
      rw [List.getElem?_append_left h2] at hj
      have a1 := (hP j q hj).lt
      have a2 := h0 _ _ hi
      omega
    · rw [List.getElem?_append_right (by omega)] at hi hj
      have := hn.1 _ _ p q hi hj he
      omega
  · by_cases h1 : k < ro.length
    · rw [List.getElem?_append_left h1] at hq
      exact hD.2 k q hq
    · rw [List.getElem?_append_right (by omega)] at hq
      exact Nat.le_trans hz (h0 _ _ hq)
theorem va_D.pick {A : Nat → Prop} {ws ws' : va_W} (h : va_D A ws) (is : List Nat) (hn : va_nd is = true) (hs : is.map (fun i => ws[i]?) = ws'.map some) : va_D A ws' := h.sub is hn hs
theorem lo_nlt {x k : Int32} (h : ¬ x < k) : k.toInt ≤ x.toInt := by rw [Int32.lt_iff_toInt_lt] at h; omega
theorem lo_le {x k : Int32} (h : k ≤ x) : k.toInt ≤ x.toInt := by rw [Int32.le_iff_toInt_le] at h; omega
theorem lo_lt {x k : Int32} (h : k < x) : k.toInt + 1 ≤ x.toInt := by rw [Int32.lt_iff_toInt_lt] at h; omega
theorem lo_nle {x k : Int32} (h : ¬ x ≤ k) : k.toInt + 1 ≤ x.toInt := by rw [Int32.le_iff_toInt_le] at h; omega
theorem up_nlt {x k : Int32} (h : ¬ k < x) : x.toInt ≤ k.toInt := by rw [Int32.lt_iff_toInt_lt] at h; omega
theorem up_le {x k : Int32} (h : x ≤ k) : x.toInt ≤ k.toInt := by rw [Int32.le_iff_toInt_le] at h; omega
theorem up_lt {x k : Int32} (h : x < k) : x.toInt ≤ k.toInt - 1 := by rw [Int32.lt_iff_toInt_lt] at h; omega
theorem up_nle {x k : Int32} (h : ¬ k ≤ x) : x.toInt ≤ k.toInt - 1 := by rw [Int32.le_iff_toInt_le] at h; omega
section RWN
variable {p : Program} {l : Launch} {e : Env} {R : Room} {s : State} {m : MethodId} {args : Array Value} {below : List Frame} {meth : Method} {c : Code} {H : Heap} {locs : List Loc} {cells slots : Nat} {Q : State → Prop}
variable {pc : Nat} {ls : Array Slot} {rest : List Value} {cc : ByteArray} {A : Nat → Prop} {D : va_G} {cl : List vw_C} {ws : va_W} {H0 : Heap}
/-- newarray, with the array class that g names -/
theorem r_newa (hexec : p.tables.exec = Jvm.exec) (hb : c.code = cc) {atype : ArrayType} (harr : (Cond.arrayClass (newarray.typeOf atype)).before args s = true) {cy : ClassId} (hcy : s.vm.findClass ("[" ++ (newarray.typeOf atype).toString) = some cy) (hP : va_P D cl ws H) (hD : va_D A ws) (hS : va_S A H0 H locs) (hA : ∀ q, H0.size ≤ q → A q)
    {n : Int32} {N' : Nat} {a0 : vp_A} (ha : ∀ cA : ClassId, vp_cell cA a0 = arrV cA N' (fun _ => defaultValue (newarray.typeOf atype))) (hn : ¬ n < 0) (hN : n.toNatClampNeg = N') (hbytes : N' * componentBytes (newarray.typeOf atype) ≤ 536870912) (hcells : cells + 1 ≤ R.cells) (hslots : slots + N' ≤ R.slots) (hdg : decode cc pc = .ok (.newarray atype, 2))
    (kk : ∀ (q : Nat) (H1 : Heap), va_P D cl (ws ++ [(q, .inl (cy, a0))]) H1 → va_D A (ws ++ [(q, .inl (cy, a0))]) → va_S A H0 H1 locs →
      W p l e R s m args below meth c H1 locs (cells + 1) (slots + N') Q (F0 m (pc + 2) ls (.ref q :: rest))) : W p l e R s m args below meth c H locs cells slots Q (F0 m pc ls (.int n :: rest)) := by
  refine va_newaK hexec hb harr rfl hdg rfl hn hN hbytes hcells hslots rfl fun H1 cA e1 z1 o1 hAr hNm => ?_
  have hcc : cA = cy := Option.some.inj (hNm.symm.trans hcy)
  subst hcc
  have hk : ∀ (k : Nat) (x : Nat × va_E), ws[k]? = some x → H1[x.1]? = H[x.1]? := fun k x hx => o1 x.1 ((hP k x hx).lt)
  refine kk H.size H1 ((hP.kept hk).app (fun k x hx => ?_)) (hD.push hP rfl (hA _ hS.1)) ⟨Nat.le_trans hS.1 (by omega), fun x h1 h2 => (o1 x (Nat.lt_of_lt_of_le h1 hS.1)).trans (hS.2.1 x h1 h2), hS.2.2⟩
  have hz : k < 1 := (List.getElem?_eq_some_iff.mp hx).1
  rw [show k = 0 by omega] at hx
  cases hx
  show H1[H.size]? = some (vp_cell _ _)
  rw [ha]
  exact e1
end RWN
/-- a char -/
def isC (x : Int32) : Prop := narrow .char (.int x) = .int x ∧ fits .char (.int x) = true
