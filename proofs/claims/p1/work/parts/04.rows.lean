section RW0
variable {p : Program} {l : Launch} {e : Env} {R : Room} {s : State} {m : MethodId} {args : Array Value} {below : List Frame} {meth : Method} {c : Code} {H : Heap} {locs : List Loc} {cells slots : Nat} {Q : State → Prop}
variable {pc : Nat} {ls : Array Slot} {rest : List Value} {cc : ByteArray} {A : Nat → Prop} {D : va_G} {g : Nat → ClassId} {z0 : Nat}
theorem r_topi {x v : Int32} (h : x = v) (k : W p l e R s m args below meth c H locs cells slots Q (F0 m pc ls (.int v :: rest))) : W p l e R s m args below meth c H locs cells slots Q (F0 m pc ls (.int x :: rest)) := h ▸ k
theorem r_topl {x v : Int64} (h : x = v) (k : W p l e R s m args below meth c H locs cells slots Q (F0 m pc ls (.long v :: rest))) : W p l e R s m args below meth c H locs cells slots Q (F0 m pc ls (.long x :: rest)) := h ▸ k
theorem fT {A : Nat → Prop} {t : State} (hS : va_S A s.heap H locs) (h1 : H.size ≤ t.heap.size) (h2 : ∀ q : Nat, q < H.size → t.heap[q]? = H[q]?) : va_F A s t :=
  ⟨Nat.le_trans hS.1 h1, fun q hq hn => (h2 q (Nat.lt_of_lt_of_le hq hS.1)).trans (hS.2.1 q hq hn)⟩
/-- throw new X(), out of a method without handlers -/
theorem thr0 {own cls : String} {names : List String} {ik ic mc ms n : Nat} {free : Addr → Prop} {Qc : Array Value → State → Outcome → State → Prop} {XC : String → State → State → Prop} {lv : List (Nat × Value)}
    (hx : p.tables.exec = Jvm.exec) (hb : c.code = cc) (hfl : l.stackTraces = false) (hown : s.vm.findClass own = some m.cls) (ht : ∀ w ∈ TG, w.before args s = true) (hNW : NW g s) (hZ : ZZ g z0 s) (hAz : ∀ q, A q → z0 ≤ q) (hS : va_S A s.heap H locs) (hl : lv_has ls n lv) (hml : c.maxLocals = n) (htab : ∀ x ∈ c.exceptionTable.toList, False) (hlocks : meth.locks = false)
    (hfit : (Bundle.fit cls && names.all Bundle.fit) = true) (hk : Cond.classLink own ik cls ∈ TG) (hini : Cond.initialized cls ∈ TG) (hat : ∀ w ∈ vx_at0 own ic cls names, w ∈ TG ∨ w ∈ NWL)
    (d0 : decode cc pc = .ok (.new ik, 3)) (d3 : decode cc (pc + 3) = .ok (.dup, 1)) (d4 : decode cc (pc + 4) = .ok (.invokespecial ic, 3)) (d7 : decode cc (pc + 7) = .ok (.athrow, 1))
    (hR1 : Nat.ble (names.length + 4) R.frames = true) (hR2 : Nat.ble ((rest.map fun v => v.category).sum + (13 * (names.length + 1) + 42)) R.locals = true) (hR3 : Nat.ble (cells + 1) R.cells = true) (hR4 : Nat.ble (slots + 6) R.slots = true)
    (hX : ∀ t : State, s.vm.Alike t.vm → va_F A s t → XC cls s t) (hf : ∀ q, A q → free q) (hc : Nat.ble (cells + 1) mc = true) (hs : Nat.ble (slots + 6) ms = true) :
    W p l e R s m args below meth c H locs cells slots (vx_MQ below Qc XC args s mc ms free) (F0 m pc ls rest) := by
  simp only [Bool.and_eq_true, List.all_eq_true] at hfit
  refine vx_throw0 hx hb hfl hown hfit.1 hfit.2 (ht _ hk) (ht _ hini) (fun w h => (hat w h).elim (ht w) (fun h => hNW.use h)) (fun w h => ?_) (hZ.1.narrow hAz) (hZ.2.1.narrow hAz) hS (hl.1.trans hml.symm) d0 d3 d4 d7 (fun x hx => (htab x hx).elim) (Nat.le_of_ble_eq_true hR1) (Nat.le_of_ble_eq_true hR2) (Nat.le_of_ble_eq_true hR3) (Nat.le_of_ble_eq_true hR4) hlocks (fun t hvm h1 h2 => hX t hvm (fT hS h1 h2)) (fun z hz => hf _ (hS.2.2 z hz)) (Nat.le_of_ble_eq_true hc) (Nat.le_of_ble_eq_true hs)
  have hT : w ∈ TG ∨ w ∈ NWL := by
    rcases List.mem_cons.mp h with h | h
    · rw [h]; exact Or.inl hk
    · rcases List.mem_cons.mp h with h | h
      · rw [h]; exact Or.inl hini
      · exact hat w h
  unfold vx_ot
  rcases hT with hT | hT
  · rw [TG_good w hT, Bool.or_true]
  · rw [nw_tab (List.mem_filter.mp hT).2, Bool.true_or]
/-- what a callee threw goes on to the caller's caller -/
theorem out0 {E : String} {ce : Cell} {q : Addr} {mc ms : Nat} {free : Addr → Prop} {Qc : Array Value → State → Outcome → State → Prop} {XC : String → State → State → Prop}
    (htab : ∀ x ∈ c.exceptionTable.toList, False) (hlocks : meth.locks = false) (hS : va_S A s.heap H locs) (hcell : H[q]? = some ce) (hv : ce.vm = .none) (hcl : s.vm.findClass E = some ce.cls)
    (hX : ∀ t : State, s.vm.Alike t.vm → va_F A s t → XC E s t) (hf : ∀ q, A q → free q) (hc : Nat.ble cells mc = true) (hs : Nat.ble slots ms = true) :
    vx_W p l e R s m args below meth c H locs cells slots (vx_MQ below Qc XC args s mc ms free) (F0 m pc ls rest) q :=
  vx_out (fun x hx => (htab x hx).elim) hlocks hcell hv hcl (fun t hT hvm => hX t hvm (hS.F hT)) (fun z hz => hf _ (hS.2.2 z hz)) (Nat.le_of_ble_eq_true hc) (Nat.le_of_ble_eq_true hs)
end RW0
theorem le2 {a b c d : Nat} (h1 : Nat.ble a b = true) (h2 : Nat.ble c d = true) : a ≤ b ∧ c ≤ d := ⟨Nat.le_of_ble_eq_true h1, Nat.le_of_ble_eq_true h2⟩
theorem comb {D : va_G} {cl : List vw_C} {ro rw : va_W} {H0 : Heap} {z0 : Nat} (hz : z0 ≤ H0.size) (hP : va_P D cl ro H0) (hD : va_D (fun q => z0 ≤ q) ro) (hn : va_D (va_A [] H0.size) rw) : va_D (fun q => z0 ≤ q) (ro ++ rw) := by
  have h0 : ∀ (k : Nat) (q : Nat × va_E), rw[k]? = some q → H0.size ≤ q.1 := fun k q hq => by
    rcases hn.2 k q hq with ⟨k9, e9, h9⟩ | h9
    · simp at h9
    · exact h9
  refine ⟨fun i j p q hi hj he => ?_, fun k q hq => ?_⟩
  · by_cases h1 : i < ro.length <;> by_cases h2 : j < ro.length
    · rw [List.getElem?_append_left h1] at hi
      rw [List.getElem?_append_left h2] at hj
      exact hD.1 i j p q hi hj he
    · rw [List.getElem?_append_left h1] at hi
      rw [List.getElem?_append_right (by omega)] at hj
      have a1 := (hP i p hi).lt
      have a2 := h0 _ _ hj
      omega
    · rw [List.getElem?_append_right (by omega)] at hi
      rw [List.getElem?_append_left h2] at hj
      have a1 := (hP j q hj).lt
      have a2 := h0 _ _ hi
      omega
    · rw [List.getElem?_append_right (by omega)] at hi hj
      have := hn.1 _ _ p q hi hj he
      omega
  · by_cases h1 : k < ro.length
    · rw [List.getElem?_append_left h1] at hq
      exact hD.2 k q hq
    · rw [List.getElem?_append_right (by omega)] at hq
      exact Nat.le_trans hz (h0 _ _ hq)
theorem va_D.pick {A : Nat → Prop} {ws ws' : va_W} (h : va_D A ws) (is : List Nat) (hn : va_nd is = true) (hs : is.map (fun i => ws[i]?) = ws'.map some) : va_D A ws' := h.sub is hn hs
theorem lo_nlt {x k : Int32} (h : ¬ x < k) : k.toInt ≤ x.toInt := by rw [Int32.lt_iff_toInt_lt] at h; omega
theorem lo_le {x k : Int32} (h : k ≤ x) : k.toInt ≤ x.toInt := by rw [Int32.le_iff_toInt_le] at h; omega
theorem lo_lt {x k : Int32} (h : k < x) : k.toInt + 1 ≤ x.toInt := by rw [Int32.lt_iff_toInt_lt] at h; omega
theorem lo_nle {x k : Int32} (h : ¬ x ≤ k) : k.toInt + 1 ≤ x.toInt := by rw [Int32.le_iff_toInt_le] at h; omega
theorem up_nlt {x k : Int32} (h : ¬ k < x) : x.toInt ≤ k.toInt := by rw [Int32.lt_iff_toInt_lt] at h; omega
theorem up_le {x k : Int32} (h : x ≤ k) : x.toInt ≤ k.toInt := by rw [Int32.le_iff_toInt_le] at h; omega
theorem up_lt {x k : Int32} (h : x < k) : x.toInt ≤ k.toInt - 1 := by rw [Int32.lt_iff_toInt_lt] at h; omega
theorem up_nle {x k : Int32} (h : ¬ k ≤ x) : x.toInt ≤ k.toInt - 1 := by rw [Int32.le_iff_toInt_le] at h; omega
section RWN
variable {p : Program} {l : Launch} {e : Env} {R : Room} {s : State} {m : MethodId} {args : Array Value} {below : List Frame} {meth : Method} {c : Code} {H : Heap} {locs : List Loc} {cells slots : Nat} {Q : State → Prop}
variable {pc : Nat} {ls : Array Slot} {rest : List Value} {cc : ByteArray} {A : Nat → Prop} {D : va_G} {cl : List vw_C} {ws : va_W} {H0 : Heap}
/-- newarray, with the array class that g names -/
theorem r_newa (hexec : p.tables.exec = Jvm.exec) (hb : c.code = cc) {atype : ArrayType} (harr : (Cond.arrayClass (newarray.typeOf atype)).before args s = true) {cy : ClassId} (hcy : s.vm.findClass ("[" ++ (newarray.typeOf atype).toString) = some cy) (hP : va_P D cl ws H) (hD : va_D A ws) (hS : va_S A H0 H locs) (hA : ∀ q, H0.size ≤ q → A q)
    {n : Int32} {N' : Nat} {a0 : vp_A} (ha : ∀ cA : ClassId, vp_cell cA a0 = arrV cA N' (fun _ => defaultValue (newarray.typeOf atype))) (hn : ¬ n < 0) (hN : n.toNatClampNeg = N') (hbytes : N' * componentBytes (newarray.typeOf atype) ≤ 536870912) (hcells : cells + 1 ≤ R.cells) (hslots : slots + N' ≤ R.slots) (hdg : decode cc pc = .ok (.newarray atype, 2))
    (kk : ∀ (q : Nat) (H1 : Heap), va_P D cl (ws ++ [(q, .inl (cy, a0))]) H1 → va_D A (ws ++ [(q, .inl (cy, a0))]) → va_S A H0 H1 locs →
      W p l e R s m args below meth c H1 locs (cells + 1) (slots + N') Q (F0 m (pc + 2) ls (.ref q :: rest))) : W p l e R s m args below meth c H locs cells slots Q (F0 m pc ls (.int n :: rest)) := by
  refine va_newaK hexec hb harr rfl hdg rfl hn hN hbytes hcells hslots rfl fun H1 cA e1 z1 o1 hAr hNm => ?_
  have hcc : cA = cy := Option.some.inj (hNm.symm.trans hcy)
  subst hcc
  have hk : ∀ (k : Nat) (x : Nat × va_E), ws[k]? = some x → H1[x.1]? = H[x.1]? := fun k x hx => o1 x.1 ((hP k x hx).lt)
  refine kk H.size H1 ((hP.kept hk).app (fun k x hx => ?_)) (hD.push hP rfl (hA _ hS.1)) ⟨Nat.le_trans hS.1 (by omega), fun x h1 h2 => (o1 x (Nat.lt_of_lt_of_le h1 hS.1)).trans (hS.2.1 x h1 h2), hS.2.2⟩
  have hz : k < 1 := (List.getElem?_eq_some_iff.mp hx).1
  rw [show k = 0 by omega] at hx
  cases hx
  show H1[H.size]? = some (vp_cell _ _)
  rw [ha]
  exact e1
end RWN
/-- a char -/
def isC (x : Int32) : Prop := narrow .char (.int x) = .int x ∧ fits .char (.int x) = true
theorem gF {own C : String} {idx : Nat} {x y : MethodName} {cd : Cond} (h1 : Cond.methodLink own idx x ∈ TG) (h2 : Cond.selects C x y ∈ TG) (h3 : Cond.instanceMethod y ∈ TG) (h4 : Cond.initialized y.cls ∈ TG) (h5 : cd ∈ TG) : GoodIn TG (va_wsF own idx C x y (cd :: TG)) := tgG (fun w hw => by
  rcases List.mem_append.mp hw with h | h
  · simp only [List.mem_cons, List.not_mem_nil, or_false] at h
    rcases h with h | h | h | h <;> (rw [h]; assumption)
  · exact tgC h5 w h)
theorem pl_rows {r : Nat → Nat} {N : Nat} {f : Nat → va_E} {e : va_E} : va_pl ([] ++ (List.range N).map r) (vr_up f ((List.range N).map r) e) = (List.range N).map (fun i => (r i, e)) := by
  unfold va_pl
  rw [List.nil_append, List.map_map]
  apply List.map_congr_left
  intro i hi
  show (r i, vr_up f _ e (r i)) = (r i, e)
  rw [vr_up_in (List.mem_map.mpr ⟨i, hi, rfl⟩)]
theorem aa_at {r : Nat → Nat} {N k : Nat} {i : Int32} (hi : i.toNatClampNeg = k) (hk : k < N) : (fun i => if i < N then some (r i) else none) i.toNatClampNeg = some (r k) := by
  show (if _ then _ else _) = _
  rw [hi, if_pos hk]
section RWQ
variable {p : Program} {l : Launch} {e : Env} {R : Room} {s : State} {m : MethodId} {args : Array Value} {below : List Frame} {meth : Method} {c : Code} {H : Heap} {locs : List Loc} {cells slots : Nat} {Q : State → Prop}
variable {pc : Nat} {ls : Array Slot} {rest : List Value} {cc : ByteArray} {A : Nat → Prop} {D : va_G} {g : Nat → ClassId} {cl : List vw_C} {ws : va_W} {H0 : Heap} {a : Nat} {tys : List (ClassId × FieldType)}
/-- anewarray of Object, with the array class that g names -/
theorem r_newq (hexec : p.tables.exec = Jvm.exec) (hb : c.code = cc) {own : String} {index : Nat} (hown : s.vm.findClass own = some m.cls) (hclink : (Cond.classLink own index "java/lang/Object").before args s = true) (hK : KK D g s) (hP : va_P D vwCl ws H) (hD : va_D A ws) (hS : va_S A H0 H locs) (hA : ∀ q, H0.size ≤ q → A q)
    {n : Int32} {N' : Nat} (hn : ¬ n < 0) (hN : n.toNatClampNeg = N') (hbytes : N' * 4 ≤ 536870912) (hcells : cells + 1 ≤ R.cells) (hslots : slots + N' ≤ R.slots) (hdg : decode cc pc = .ok (.anewarray index, 3))
    (kk : ∀ (q : Nat) (H1 : Heap), va_P D vwCl (ws ++ [(q, .inl (g 8, N', .inr (.inr (.inr (.inr (fun _ => none))))))]) H1 → va_D A (ws ++ [(q, .inl (g 8, N', .inr (.inr (.inr (.inr (fun _ => none))))))]) → va_S A H0 H1 locs →
      W p l e R s m args below meth c H1 locs (cells + 1) (slots + N') Q (F0 m (pc + 3) ls (.ref q :: rest))) : W p l e R s m args below meth c H locs cells slots Q (F0 m pc ls (.int n :: rest)) := by
  refine va_newq hexec hb hown hclink hK.2.2.2.2.2.1.2.2 hK.1 hP hD hS hA hn hN hbytes hcells hslots hdg (fun q cA H1 hK1 hP hD hS => ?_)
  obtain ⟨_, _, _, _, _, h1⟩ := (hK1.2 9 _ rfl).2
  obtain ⟨_, _, _, _, _, h2⟩ := (hK.1.2 8 _ rfl).2
  have e9 : cA = g 8 := Option.some.inj (h1.symm.trans h2)
  subst e9
  exact kk q H1 hP hD hS
/-- multianewarray of two dimensions, the inner rows one by one -/
theorem r_mna (hexec : p.tables.exec = Jvm.exec) (hb : c.code = cc) {own : String} {index : Nat} {ty : FieldType} {cy co : ClassId} {t0 : Nat} (hown : s.vm.findClass own = some m.cls) (hclink : (Cond.classLink own index ("[" ++ (FieldType.array ty).toString)).before args s = true) (hover : va_AOA ty s) (harr : (Cond.arrayClass ty).before args s = true) (hcy : s.vm.findClass (FieldType.array ty).toString = some cy)
    (hK : va_K D cl tys s) (ht0 : tys[t0]? = some (co, .array ty)) (hP : va_P D cl ws H) (hD : va_D A ws) (hS : va_S A H0 H locs) (hA : ∀ q, H0.size ≤ q → A q) {n k : Int32} {N' K' : Nat} {z : vp_A} (hn : ¬ n < 0) (hk : ¬ k < 0) (hN : n.toNatClampNeg = N') (hM : k.toNatClampNeg = K')
    (hb1 : N' * 4 ≤ 536870912) (hb2 : K' * componentBytes ty ≤ 536870912) (hb3 : K' ≤ 536870912) (hdf : fits ty (defaultValue ty) = true) (hdd : (defaultValue ty).isDefault = true) (hcells : cells + (1 + N') ≤ R.cells) (hslots : slots + (N' + N' * K') ≤ R.slots) (hz : ∀ c : ClassId, Jvm.Free.Multi.innerC c K' (defaultValue ty) = vp_cell c z) (hdg : decode cc pc = .ok (.multianewarray index 2, 4))
    (kk : ∀ (q : Nat) (r : Nat → Nat) (H1 : Heap),
      va_P D cl ((ws ++ [(q, .inl (co, N', .inr (.inr (.inr (.inr (fun i => if i < N' then some (r i) else none))))))]) ++ (List.range N').map (fun i => (r i, .inl (cy, z)))) H1 → va_D A ((ws ++ [(q, .inl (co, N', .inr (.inr (.inr (.inr (fun i => if i < N' then some (r i) else none))))))]) ++ (List.range N').map (fun i => (r i, .inl (cy, z)))) → va_S A H0 H1 locs →
      W p l e R s m args below meth c H1 locs (cells + 1 + N') (slots + N' + N' * K') Q (F0 m (pc + 4) ls (.ref q :: rest))) : W p l e R s m args below meth c H locs cells slots Q (F0 m pc ls (.int k :: .int n :: rest)) := by
  have e0 : ws ++ va_pl [] (fun _ => (.inl (cy, z) : va_E)) = ws := List.append_nil ws
  refine va_mna (X := ws) (L := []) (f := fun _ => (.inl (cy, z) : va_E)) hexec hb hown hclink hover harr hcy hK (by rw [e0]; exact hP) (by rw [e0]; exact hD) hS hA hn hk hN hM hb1 hb2 hb3 hdf hdd hcells hslots hz hdg (fun q r cA H1 _ _ hK1 hP hD hS => ?_)
  have h1 : s.vm.findClass ("[" ++ (FieldType.array ty).toString) = some cA := (hK1.2 tys.length (cA, .array ty) (by rw [List.getElem?_append_right (Nat.le_refl _), Nat.sub_self]; rfl)).2
  have h2 : s.vm.findClass ("[" ++ (FieldType.array ty).toString) = some co := (hK.2 t0 _ ht0).2
  have e9 : cA = co := Option.some.inj (h1.symm.trans h2)
  subst e9
  rw [pl_rows] at hP hD
  exact kk q r H1 hP hD hS
theorem r_aalda (hexec : p.tables.exec = Jvm.exec) (hb : c.code = cc) (hK : va_K D cl tys s) (hP : va_P D cl ws H) (q0 t0 : Nat) {cA : ClassId} {ty : FieldType} {n x : Nat} {f : Nat → Option Nat} (ha : ws[q0]? = some (a, .inl (cA, n, .inr (.inr (.inr (.inr f)))))) (ht : tys[t0]? = some (cA, .array ty)) {i : Int32} (hin : vp_in i n) (hx : f i.toNatClampNeg = some x) (hdg : decode cc pc = .ok (.aaload, 1))
    (kk : W p l e R s m args below meth c H locs cells slots Q (F0 m (pc + 1) ls (.ref x :: rest))) : W p l e R s m args below meth c H locs cells slots Q (F0 m pc ls (.int i :: .ref a :: rest)) := by
  have hlt : i.toNatClampNeg < n := Nat.not_le.mp fun q => hin (Or.inr q)
  refine W.aald (v := .ref x) (ty := .array ty) hexec hb (hP q0 _ ha) ((hK.2 t0 _ ht).1 n (fun j => va_rf (f j))) rfl (fun q => by cases q) (by show ¬ (i < 0 ∨ (arrV _ _ _).slots.size ≤ _); rw [arrV_size]; exact hin) (by show (arrV _ _ _).slots[_]? = _; rw [arrV_read _ _ hlt, hx]; rfl) rfl rfl hdg kk
end RWQ
/-- an Int32 between two numbers is a number -/
theorem sw_j {x lo hi : Int32} {a b : Nat} (ha : lo.toInt = a) (hb : hi.toInt = b) (h1 : ¬ x < lo) (h2 : ¬ hi < x) : ∃ j : Nat, a ≤ j ∧ j ≤ b ∧ x = nI j := by
  have h3 := lo_nlt h1
  have h4 := up_nlt h2
  have h0 : ¬ x < 0 := by
    intro h
    have h5 := up_lt h
    have e : (0 : Int32).toInt = 0 := by decide
    omega
  obtain ⟨j, h5, h6⟩ := nI_of h0
  have h7 : x.toInt = (j : Int) := by rw [h6]; exact nI_toInt h5
  exact ⟨j, by omega, by omega, h6⟩
/-- ldc_w of a text -/
theorem r_ldcSw {p : Program} {l : Launch} {e : Env} {R : Room} {s : State} {m : MethodId} {args : Array Value} {below : List Frame} {meth : Method} {c : Code} {H : Heap} {locs : List Loc} {cells slots : Nat} {Q : State → Prop} {pc : Nat} {ls : Array Slot} {rest : List Value} {cc : ByteArray}
    (hexec : p.tables.exec = Jvm.exec) (hb : c.code = cc) {own tx : String} {index q : Nat} (hown : s.vm.findClass own = some m.cls) (hZ : vk_R own index tx q s) (hdg : decode cc pc = .ok (.ldc_w index, 3))
    (kk : W p l e R s m args below meth c H locs cells slots Q (F0 m (pc + 3) ls (.ref q :: rest))) : W p l e R s m args below meth c H locs cells slots Q (F0 m pc ls rest) := by
  intro T hT X
  obtain ⟨t, a1, b1⟩ := kk T hT X
  refine ⟨t, ?_, b1⟩
  obtain ⟨k, cf, i, a', hk, hcf, hcp, -, hr, hev'⟩ := Cond.stringRef_spec (args := #[]) hown hZ.1
  cases hZ.2.symm.trans hev'
  obtain ⟨k', hk', he⟩ := X.warmed.alike.2.2 _ _ hk
  have hr' : k'.resolved[index]? = some (some (.string q)) := by
    rcases X.warmed.entry hk hk' index with h | ⟨h, -⟩
    · rw [h]; exact hr
    · rw [hr] at h; cases h
  have hdg' : decode c.code (F0 m pc ls rest).pc = .ok (.ldc_w index, 3) := by rw [hb]; exact hdg
  jvm_step X.here [hexec, hdg', ldc_w.wp_string (e := e) (s := T) (f := F0 m pc ls rest) X.here.top hk' (by rw [he]; exact hcf) hcp hr']
  exact a1
/-- a char of one byte is told by that byte -/
theorem ix_eq {x : Int32} {n : Nat} (h0 : ¬ x < 0) (h1 : ¬ (255 : Int32) < x) (hn : n < 256) (h : (nI n).toInt8.toInt32 = x.toInt8.toInt32) : x = nI n := by
  obtain ⟨j, j1, j2, rfl⟩ := sw_j (a := 0) (b := 255) (by decide) (by decide) h0 h1
  have key : ∀ i, i < 256 → ∀ k, k < 256 → (nI i).toInt8.toInt32 = (nI k).toInt8.toInt32 → nI k = nI i := by
    intro i hi k hk hh
    have e1 : ∀ u, u < 256 → ((nI u).toInt8.toInt32).toInt = if u < 128 then (u : Int) else (u : Int) - 256 := by decide +kernel
    have a1 := e1 i hi
    have a2 := e1 k hk
    rw [hh, a2] at a1
    have : k = i := by
      by_cases c1 : i < 128 <;> by_cases c2 : k < 128 <;> simp [c1, c2] at a1 <;> omega
    rw [this]
  exact key n hn j (by omega) h
theorem arrV_eq {cA : ClassId} {n : Nat} {f f2 : Nat → Value} (h : ∀ j, j < n → f j = f2 j) : arrV cA n f = arrV cA n f2 := by
  unfold arrV
  congr 1
  exact congrArg Array.ofFn (funext fun j => h j.val j.isLt)
theorem nil_P {D : va_G} {cl : List vw_C} {H : Heap} : va_P D cl [] H := fun _ _ h => by simp at h
theorem nil_D {A : Nat → Prop} : va_D A [] := ⟨fun _ _ _ _ h => by simp at h, fun _ _ h => by simp at h⟩
theorem one_up {D : va_G} {cl : List vw_C} {ws : va_W} {H : Heap} {a : Nat} {cA : ClassId} {f : Nat → Int64} {v : Int64} (hP : va_P D cl ws H) (k : Nat) (hk : ws[k]? = some (a, .inl (cA, 1, .inr (.inl f)))) (h0 : f 0 = v) : va_P D cl (ws.set k (a, .inl (cA, 1, .inr (.inl (fun _ => v))))) H := by
  intro j q hq
  by_cases hj : j = k
  · subst hj
    have hlt : j < ws.length := (List.getElem?_eq_some_iff.mp hk).1
    rw [List.getElem?_set_self hlt] at hq
    cases hq
    have h1 := hP j _ hk
    show H[_]? = some (arrV cA 1 (fun j => .long v))
    rw [← arrV_eq (f := fun j => .long (f j)) (f2 := fun _ => .long v) (fun j hj => by rw [show j = 0 by omega, h0])]
    exact h1
  · rw [List.getElem?_set_ne (Ne.symm hj)] at hq
    exact hP j q hq
/-- a contract of a method with handlers, from its body's walk -/
theorem metW0 {l : Launch} {y : MethodName} {cc : ByteArray} {n : Nat} {ret : Option FieldType} {hh : List (Nat × Nat × Nat × Nat)} {rm : Room} {As : List Value} {D : va_G} {g : Nat → ClassId} {z0 sz : Nat} {ws : va_W} {Qc : Array Value → State → Outcome → State → Prop} {mc ms : Nat} {free : Addr → Prop}
    (hy : plainName y.cls = true) (hn : (lg_sl As).length ≤ n)
    (body : ∀ (p : Program) (e : Env) (s : State) (m : MethodId) (args : Array Value) (below : List Frame) (meth : Method) (c : Code), p.tables.exec = Jvm.exec → c.code = cc → meth.sig.returnType = ret → c.maxLocals = n → c.exceptionTable.toList = tableOf hh → s.vm.findClass y.cls = some m.cls → (∀ w ∈ TG, w.before args s = true) → meth.locks = false → meth.name = y.name →
      va_P D vwCl ws s.heap → va_D (fun q => z0 ≤ q) ws → KK D g s → ZZ g z0 s → s.heap.size = sz → z0 ≤ s.heap.size → ∀ ls : Array Slot, lv_has ls n (lv_args 0 As) →
      W p l e rm s m args below meth c s.heap [] 0 0 (MQ below Qc args s mc ms free) (F0 m 0 ls [])) :
    Met l y (.codeWith y cc n ret hh :: TG) rm (va_Pc As (PP D g z0 sz ws)) Qc mc ms free := by
  refine va_MetW (cc := cc) (maxL := n) (ret := ret) (hh := hh) hy rfl ?_
  intro p e s m args below meth c s₁ B hml hv
  obtain ⟨rfl, hsz, hz, hP, hD, hK, hZ⟩ := hv
  have hts := atoms_spec (ws := Cond.codeWith y cc n ret hh :: TG) B.pre
  have hl := lv_entry As (n := n) hn
  rw [lg_entry_eq]
  exact body p e s m _ below meth c B.exec B.bytes B.returns hml (vx_table (x := y) B (hts _ List.mem_cons_self)) (findClass_of_methodNamed B.named) (fun w h => hts w (List.mem_cons_of_mem _ h)) B.notSynchronized (name_of_methodNamed B.named B.method).1 hP hD hK hZ hsz (hsz ▸ hz) _ hl
theorem lg_self (x : Int64) : lg_cmp x x = 0 := by
  unfold lg_cmp
  simp
theorem isC_i2c (x : Int32) : isC ((x.toUInt32 % 65536).toInt32) := ⟨pk_nc x, pk_fc x⟩
theorem and_m1 (x : Int32) : x &&& (-1) = x := by
  apply Int32.toBitVec_inj.mp
  rw [Int32.toBitVec_and]
  exact BitVec.and_allOnes
theorem xor_z : (0 : Int32) ^^^ (-1) = -1 := by decide
theorem ones0 {k o : Int32} (hk : k = 0) (h : o &&& (k ^^^ (-1)) = 0) : o = 0 := by
  rw [hk, xor_z, and_m1] at h
  exact h
theorem eq_lu {x k : Int32} (h1 : k.toInt ≤ x.toInt) (h2 : x.toInt ≤ k.toInt) : x = k := Int32.toInt_inj.mp (Int.le_antisymm h2 h1)
theorem two_out {x : Int32} (h0 : (0 : Int32).toInt ≤ x.toInt) (h1 : x.toInt ≤ (1 : Int32).toInt) (n0 : ¬ x = 0) (n1 : ¬ x = 1) : False := by
  have e0 : (0 : Int32).toInt = 0 := by decide
  have e1 : (1 : Int32).toInt = 1 := by decide
  rw [e0] at h0
  rw [e1] at h1
  by_cases h : x.toInt = 0
  · exact n0 (Int32.toInt_inj.mp (by rw [h, e0]))
  · exact n1 (Int32.toInt_inj.mp (by rw [e1]; omega))
