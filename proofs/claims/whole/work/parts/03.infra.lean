/-! one list of words for every contract: the good words of the tables -/
def TG : List Cond := lw_tbl.filter goodWord
theorem tg {w : Cond} (h : w ∈ lw_tbl) (g : goodWord w = true) : w ∈ TG := List.mem_filter.mpr ⟨h, g⟩
theorem TG_tbl : ∀ w ∈ TG, w ∈ lw_tbl := fun _ h => (List.mem_filter.mp h).1
theorem TG_good : ∀ w ∈ TG, goodWord w = true := fun _ h => (List.mem_filter.mp h).2
theorem tgG {ws : List Cond} (h : ∀ w ∈ ws, w ∈ TG) : GoodIn TG ws := fun w hw => ⟨h w hw, good_of_word (TG_good w (h w hw))⟩
theorem tgC {c : Cond} (h : c ∈ TG) : ∀ w ∈ c :: TG, w ∈ TG := fun w hw => (List.mem_cons.mp hw).elim (fun e => e ▸ h) id
theorem gV {own C : String} {idx : Nat} {y : MethodName} {cd : Cond} (h1 : Cond.methodLink own idx y ∈ TG) (h2 : Cond.instanceMethod y ∈ TG) (h3 : Cond.selects C y y ∈ TG) (h4 : Cond.initialized C ∈ TG) (h5 : cd ∈ TG) : GoodIn TG (wsV own idx C y (cd :: TG)) := tgG (fun w hw => by
  rcases List.mem_append.mp hw with h | h
  · simp only [List.mem_cons, List.not_mem_nil, or_false] at h
    rcases h with h | h | h | h <;> (rw [h]; assumption)
  · exact tgC h5 w h)
theorem gS {own : String} {idx : Nat} {y : MethodName} {cd : Cond} (h1 : Cond.methodLink own idx y ∈ TG) (h2 : Cond.static y ∈ TG) (h4 : Cond.initialized y.cls ∈ TG) (h5 : cd ∈ TG) : GoodIn TG (va_wsS own idx y (cd :: TG)) := tgG (fun w hw => by
  rcases List.mem_append.mp hw with h | h
  · simp only [List.mem_cons, List.not_mem_nil, or_false] at h
    rcases h with h | h | h <;> (rw [h]; assumption)
  · exact tgC h5 w h)
theorem gI {cd : Cond} (h5 : cd ∈ TG) : GoodIn TG (cd :: TG) := tgG (tgC h5)
/-! what stays the same over a run: the classes, the array classes by g, the two statics that a throw reads -/
abbrev TY (g : Nat → ClassId) : List (ClassId × FieldType) := [(g 0, .int), (g 1, .long), (g 2, .char), (g 3, .boolean), (g 4, .double), (g 5, .byte)]
def NM (g : Nat → ClassId) (U : State) : Prop := U.vm.findClass "[I" = some (g 0) ∧ U.vm.findClass "[J" = some (g 1) ∧ U.vm.findClass "[C" = some (g 2) ∧ U.vm.findClass "[Z" = some (g 3) ∧ U.vm.findClass "[D" = some (g 4) ∧ U.vm.findClass "[B" = some (g 5)
def nwOk : Cond → Bool
  | .castable .. | .declares .. | .fieldLinkNest .. | .methodLinkNest .. => true
  | _ => false
def NWL : List Cond := tables_1.filter nwOk
def NW (U : State) : Prop := ∀ w ∈ NWL, va_Nw w U
theorem nw_tab {w : Cond} (h : nwOk w = true) : w.onTables = true := by
  cases w <;> first | rfl | (simp [nwOk] at h)
theorem NW.use {U : State} {a : Array Value} {w : Cond} (h : NW U) (hw : w ∈ NWL) : w.before a U = true := va_Nw.use (nw_tab (List.mem_filter.mp hw).2) (h w hw)
theorem NW.same {u U : State} (hvm : u.vm = U.vm) (h : NW u) : NW U := fun w hw => va_Nw.same (nw_tab (List.mem_filter.mp hw).2) hvm (h w hw)
theorem NW.warm {s U : State} (hW : s.WarmedH U.vm) (h : NW s) : NW U := by
  intro w hw
  have h1 := (List.mem_filter.mp hw).2
  have h2 := h w hw
  cases w <;> first | exact va_Nw.warmF hW h2 | exact va_Nw.warmM hW h2 | exact va_Nw.warmD hW h2 | exact va_Nw.warmC hW h2 | (simp [nwOk] at h1)
def KK (D : va_G) (g : Nat → ClassId) (U : State) : Prop := va_K D vwCl (TY g) U ∧ NM g U ∧ NW U
theorem NM.moved {g : Nat → ClassId} {u U : State} (hvm : u.vm.Alike U.vm) (h : NM g u) : NM g U := by
  unfold NM at h ⊢
  simp only [hvm.findClass]
  exact h
theorem KK.same {D : va_G} {g : Nat → ClassId} {u U : State} (hvm : u.vm = U.vm) (h : KK D g u) : KK D g U := ⟨va_K.moved (hvm ▸ Vm.Alike.refl u.vm) h.1, h.2.1.moved (hvm ▸ Vm.Alike.refl u.vm), h.2.2.same hvm⟩
theorem KK.warm {D : va_G} {g : Nat → ClassId} {s U : State} (hW : s.WarmedH U.vm) (h : KK D g s) : KK D g U := ⟨va_K.moved hW.alike h.1, h.2.1.moved hW.alike, h.2.2.warm hW⟩
def ZZ (z0 : Nat) (U : State) : Prop := vx_Zq Bundle.tN "UNASSIGNED_STACK" Bundle.steD (fun q => z0 ≤ q) U U.heap ∧ vx_Zq Bundle.tN "SUPPRESSED_SENTINEL" Bundle.listD (fun q => z0 ≤ q) U U.heap
theorem ZZ.to {z0 : Nat} {s U : State} (h : ZZ z0 s) (hvm : s.vm.Alike U.vm) (hq : ∀ a : Nat, a < s.heap.size → ¬ z0 ≤ a → U.heap[a]? = s.heap[a]?) : ZZ z0 U :=
  ⟨(h.1.moved hvm).kept hq, (h.2.moved hvm).kept hq⟩
/-- the start of a contract: the heap's size, the world ws, the launch's constants -/
def PP (D : va_G) (g : Nat → ClassId) (z0 sz : Nat) (ws : va_W) (U : State) : Prop := U.heap.size = sz ∧ z0 ≤ sz ∧ va_P D vwCl ws U.heap ∧ va_D (fun q => z0 ≤ q) ws ∧ KK D g U ∧ ZZ z0 U
theorem PP.blind {D : va_G} {g : Nat → ClassId} {z0 sz : Nat} {ws : va_W} {As : List Value} : FrameBlind (va_Pc As (PP D g z0 sz ws)) := by
  intro a U fr mk h
  obtain ⟨h0, h1, h2, h3, h4, h5, h6⟩ := h
  exact ⟨h0, h1, h2, h3, h4, KK.same (u := U) (U := U.calling fr mk a) rfl h5, ZZ.to (s := U) (U := U.calling fr mk a) h6 (Vm.Alike.refl U.vm) (fun _ _ _ => rfl)⟩
theorem PP.mk' {D : va_G} {g : Nat → ClassId} {z0 : Nat} {ws : va_W} {As : List Value} {s : State} {H : Heap} {locs : List Loc} {A : Nat → Prop} (hK : KK D g s) (hZ : ZZ z0 s) (hz : z0 ≤ s.heap.size) (hAz : ∀ q, A q → z0 ≤ q) (hS : va_S A s.heap H locs) (hP : va_P D vwCl ws H) (hD : va_D (fun q => z0 ≤ q) ws) :
    ∀ U : State, U.heap = H → s.WarmedH U.vm → va_Pc As (PP D g z0 H.size ws) As.toArray U := by
  intro U hU hW
  refine ⟨rfl, by rw [hU], Nat.le_trans hz hS.1, by rw [hU]; exact hP, hD, hK.warm hW, hZ.to hW.alike ?_⟩
  intro a ha hn
  rw [hU]
  exact hS.2.1 a ha (fun h => hn (hAz a h))
/-- a world that a call which writes nothing old leaves -/
theorem ro1 {D : va_G} {cl : List vw_C} {ws : va_W} {H H1 : Heap} (hP : va_P D cl ws H) (hk : ∀ q : Nat, q < H.size → ¬ va_A [] H.size q → H1[q]? = H[q]?) : va_P D cl ws H1 :=
  hP.kept (fun k q hq => hk q.1 ((hP k q hq).lt) (fun h => by
    rcases h with ⟨k9, e9, h9⟩ | h9
    · simp at h9
    · exact Nat.lt_irrefl _ (Nat.lt_of_lt_of_le ((hP k q hq).lt) h9)))
/-- the old world under what has been written since in new cells alone -/
theorem ro0 {D : va_G} {cl : List vw_C} {ws : va_W} {H0 H : Heap} {locs : List Loc} (hP : va_P D cl ws H0) (hS : va_S (va_A [] H0.size) H0 H locs) : va_P D cl ws H := ro1 hP hS.2.1
theorem va_D.to {A B : Nat → Prop} {ws : va_W} (h : va_D A ws) (hAB : ∀ q, A q → B q) : va_D B ws := ⟨h.1, fun k q hq => hAB _ (h.2 k q hq)⟩
theorem A0z {z0 sz : Nat} (hz : z0 ≤ sz) : ∀ q, va_A [] sz q → z0 ≤ q := by
  intro q h
  rcases h with ⟨k9, e9, h9⟩ | h9
  · simp at h9
  · exact Nat.le_trans hz h9
theorem Awz {z0 sz : Nat} {ws : va_W} (hz : z0 ≤ sz) (hD : va_D (fun q => z0 ≤ q) ws) : ∀ q, va_A ws sz q → z0 ≤ q := by
  intro q h
  rcases h with ⟨k9, e9, h9⟩ | h9
  · exact hD.2 k9 _ h9
  · exact Nat.le_trans hz h9
theorem AnF {sz sz' : Nat} (h : sz ≤ sz') : ∀ q, va_A [] sz' q → va_A [] sz q := by
  intro q h1
  rcases h1 with ⟨k9, e9, h9⟩ | h9
  · simp at h9
  · exact Or.inr (Nat.le_trans h h9)
theorem AnA {ws : va_W} {sz sz' : Nat} (h : sz ≤ sz') : ∀ q, va_A [] sz' q → va_A ws sz q := by
  intro q h1
  rcases h1 with ⟨k9, e9, h9⟩ | h9
  · simp at h9
  · exact Or.inr (Nat.le_trans h h9)
theorem Anw {ws : va_W} {sz : Nat} : ∀ q, sz ≤ q → va_A ws sz q := fun _ h => Or.inr h
abbrev rmk (f c s n : Nat) : Room := { frames := f, cells := c, slots := s, locals := n }
/-- a contract from its body's walk: what is at hand at the start -/
theorem met0 {l : Launch} {y : MethodName} {cc : ByteArray} {n : Nat} {ret : Option FieldType} {rm : Room} {As : List Value} {D : va_G} {g : Nat → ClassId} {z0 sz : Nat} {ws : va_W} {Qc : Array Value → State → Outcome → State → Prop} {mc ms : Nat} {free : Addr → Prop}
    (hy : plainName y.cls = true) (hn : (lg_sl As).length ≤ n)
    (body : ∀ (p : Program) (e : Env) (s : State) (m : MethodId) (args : Array Value) (below : List Frame) (meth : Method) (c : Code), p.tables.exec = Jvm.exec → c.code = cc → meth.sig.returnType = ret → c.maxLocals = n → s.vm.findClass y.cls = some m.cls → (∀ w ∈ TG, w.before args s = true) → meth.locks = false → meth.name = y.name →
      va_P D vwCl ws s.heap → va_D (fun q => z0 ≤ q) ws → KK D g s → ZZ z0 s → s.heap.size = sz → z0 ≤ s.heap.size → ∀ ls : Array Slot, lv_has ls n (lv_args 0 As) →
      W p l e rm s m args below meth c s.heap [] 0 0 (MQ below Qc args s mc ms free) (F0 m 0 ls [])) :
    Met l y (.code y cc n ret :: TG) rm (va_Pc As (PP D g z0 sz ws)) Qc mc ms free := by
  refine Met.ofW (cc := cc) (maxL := n) (ret := ret) hy rfl ?_
  intro p e s m args below meth c s₁ B hml hv
  obtain ⟨rfl, hsz, hz, hP, hD, hK, hZ⟩ := hv
  have hts := atoms_spec (ws := Cond.code y cc n ret :: TG) B.pre
  have hl := lv_entry As (n := n) hn
  rw [lg_entry_eq]
  exact body p e s m _ below meth c B.exec B.bytes B.returns hml (findClass_of_methodNamed B.named) (fun w h => hts w (List.mem_cons_of_mem _ h)) B.notSynchronized (name_of_methodNamed B.named B.method).1 hP hD hK hZ hsz (hsz ▸ hz) _ hl
theorem vxm0 {l : Launch} {y : MethodName} {cc : ByteArray} {n : Nat} {ret : Option FieldType} {rm : Room} {As : List Value} {D : va_G} {g : Nat → ClassId} {z0 sz : Nat} {ws : va_W} {Qc : Array Value → State → Outcome → State → Prop} {XC : String → State → State → Prop} {mc ms : Nat} {free : Addr → Prop}
    (hy : plainName y.cls = true) (hn : (lg_sl As).length ≤ n)
    (body : ∀ (p : Program) (e : Env) (s : State) (m : MethodId) (args : Array Value) (below : List Frame) (meth : Method) (c : Code), p.tables.exec = Jvm.exec → c.code = cc → meth.sig.returnType = ret → c.maxLocals = n → (∀ x ∈ c.exceptionTable.toList, False) → s.vm.findClass y.cls = some m.cls → (∀ w ∈ TG, w.before args s = true) → meth.locks = false → meth.name = y.name →
      va_P D vwCl ws s.heap → va_D (fun q => z0 ≤ q) ws → KK D g s → ZZ z0 s → s.heap.size = sz → z0 ≤ s.heap.size → ∀ ls : Array Slot, lv_has ls n (lv_args 0 As) →
      W p l e rm s m args below meth c s.heap [] 0 0 (vx_MQ below Qc XC args s mc ms free) (F0 m 0 ls [])) :
    vx_Met l y (.code y cc n ret :: TG) rm (va_Pc As (PP D g z0 sz ws)) Qc XC mc ms free := by
  refine vx_ofW (cc := cc) (maxL := n) (ret := ret) hy rfl ?_
  intro p e s m args below meth c s₁ B hml htab hv
  obtain ⟨rfl, hsz, hz, hP, hD, hK, hZ⟩ := hv
  have hts := atoms_spec (ws := Cond.code y cc n ret :: TG) B.pre
  have hl := lv_entry As (n := n) hn
  rw [lg_entry_eq]
  exact body p e s m _ below meth c B.exec B.bytes B.returns hml htab (findClass_of_methodNamed B.named) (fun w h => hts w (List.mem_cons_of_mem _ h)) B.notSynchronized (name_of_methodNamed B.named B.method).1 hP hD hK hZ hsz (hsz ▸ hz) _ hl
