/-! one list of words for every contract: the good words of the tables -/
def xselY : List MethodName := [⟨"java/lang/AbstractStringBuilder", "appendNull", "()Ljava/lang/AbstractStringBuilder;"⟩, ⟨"java/lang/AbstractStringBuilder", "ensureCapacityInternal", "(I)V"⟩, ⟨"java/lang/AbstractStringBuilder", "newCapacity", "(I)I"⟩, ⟨"java/lang/AbstractStringBuilder", "putStringAt", "(ILjava/lang/String;)V"⟩, ⟨"java/lang/AbstractStringBuilder", "inflateIfNeededFor", "(Ljava/lang/String;)V"⟩, ⟨"java/lang/AbstractStringBuilder", "inflate", "()V"⟩]
def xsel : List Cond := xselY.map (fun y => Cond.selects "java/lang/StringBuilder" y y)
def TG : List Cond := (xsel ++ lw_tbl).filter goodWord
theorem tg {w : Cond} (h : w ∈ lw_tbl) (g : goodWord w = true) : w ∈ TG := List.mem_filter.mpr ⟨List.mem_append_right _ h, g⟩
theorem tgx {w : Cond} (h : w ∈ xsel) (g : goodWord w = true) : w ∈ TG := List.mem_filter.mpr ⟨List.mem_append_left _ h, g⟩
theorem TG_tbl : ∀ w ∈ TG, w ∈ xsel ++ lw_tbl := fun _ h => (List.mem_filter.mp h).1
theorem TG_good : ∀ w ∈ TG, goodWord w = true := fun _ h => (List.mem_filter.mp h).2
theorem tgG {ws : List Cond} (h : ∀ w ∈ ws, w ∈ TG) : GoodIn TG ws := fun w hw => ⟨h w hw, good_of_word (TG_good w (h w hw))⟩
theorem tgC {c : Cond} (h : c ∈ TG) : ∀ w ∈ c :: TG, w ∈ TG := fun w hw => (List.mem_cons.mp hw).elim (fun e => e ▸ h) id
theorem gV {own C : String} {idx : Nat} {y : MethodName} {cd : Cond} (h1 : Cond.methodLink own idx y ∈ TG) (h2 : Cond.instanceMethod y ∈ TG) (h3 : Cond.selects C y y ∈ TG) (h4 : Cond.initialized C ∈ TG) (h5 : cd ∈ TG) : GoodIn TG (wsV own idx C y (cd :: TG)) := tgG (fun w hw => by
  rcases List.mem_append.mp hw with h | h
  · simp only [List.mem_cons, List.not_mem_nil, or_false] at h
    rcases h with h | h | h | h <;> (rw [h]; assumption)
  · exact tgC h5 w h)
theorem gS {own : String} {idx : Nat} {y : MethodName} {cd : Cond} (h1 : Cond.methodLink own idx y ∈ TG) (h2 : Cond.static y ∈ TG) (h4 : Cond.initialized y.cls ∈ TG) (h5 : cd ∈ TG) : GoodIn TG (va_wsS own idx y (cd :: TG)) := tgG (fun w hw => by
  rcases List.mem_append.mp hw with h | h
  · simp only [List.mem_cons, List.not_mem_nil, or_false] at h
    rcases h with h | h | h <;> (rw [h]; assumption)
  · exact tgC h5 w h)
theorem sel_priv {C : String} {y y0 : MethodName} {s : State} {args : Array Value} (hy : y.cls ≠ "java/lang/invoke/MethodHandle" ∧ y.cls ≠ "java/lang/invoke/VarHandle") (hc : y0.cls = y.cls) (h0 : (Cond.selects C y0 y0).before args s = true) (hp : (Cond.privateMethod y).before args s = true) (hi : (Cond.instanceMethod y).before args s = true) : (Cond.selects C y y).before args s = true := by
  obtain ⟨c, r, m, q1, q2, q3, q4, k, q5, q6⟩ := Cond.selects_spec h0
  obtain ⟨mk, methM, hnamed, hmethM, -, -⟩ := Cond.instanceMethod_spec hi
  have hfound : s.methodFound? y.cls y.name y.desc = some mk := State.methodFound?_of_named hnamed hy
  have hm : m.cls = mk.cls := Option.some.inj ((findClass_of_methodNamed q3).symm.trans (hc ▸ findClass_of_methodNamed hnamed))
  have hsel : selectMethod {} s.vm c mk = .method mk := selectMethod_private hmethM (Cond.privateMethod_at hp mk methM hnamed hmethM)
  rw [hm] at q5
  simp only [Cond.before, Cond.holds, Cond.value, q1, hfound, hnamed, hsel, q5]
  simp
  exact q6
theorem gU {own C owner : String} {idx : Nat} {x y : MethodName} {cd : Cond} (h1 : Cond.methodLink own idx x ∈ TG) (h2 : Cond.sameMethod x.cls owner x.name x.desc ∈ TG) (h3 : Cond.selects C x y ∈ TG) (h4 : Cond.instanceMethod y ∈ TG) (h6 : Cond.initialized y.cls ∈ TG) (h5 : cd ∈ TG) : GoodIn TG (va_wsU own idx C owner x y (cd :: TG)) := tgG (fun w hw => by
  rcases List.mem_append.mp hw with h | h
  · simp only [List.mem_cons, List.not_mem_nil, or_false] at h
    rcases h with h | h | h | h | h <;> (rw [h]; assumption)
  · exact tgC h5 w h)
theorem gO {own C owner : String} {idx : Nat} {x y : MethodName} {cd : Cond} (h1 : Cond.methodLink own idx x ∈ TG) (h2 : Cond.sameMethod x.cls owner x.name x.desc ∈ TG) (h7 : Cond.instanceMethod ⟨owner, x.name, x.desc⟩ ∈ TG) (h3 : Cond.selects C x y ∈ TG) (h4 : Cond.instanceMethod y ∈ TG) (h6 : Cond.initialized y.cls ∈ TG) (h5 : cd ∈ TG) : GoodIn TG (va_wsO own idx C owner x y (cd :: TG)) := tgG (fun w hw => by
  rcases List.mem_append.mp hw with h | h
  · simp only [List.mem_cons, List.not_mem_nil, or_false] at h
    rcases h with h | h | h | h | h | h <;> (rw [h]; assumption)
  · exact tgC h5 w h)
theorem gSU {own : String} {idx : Nat} {y : MethodName} {cd : Cond} (h1 : Cond.methodLink own idx y ∈ TG) (h2 : Cond.sameMethod y.cls y.cls y.name y.desc ∈ TG) (h3 : Cond.superclass own y.cls ∈ TG) (h4 : Cond.instanceMethod y ∈ TG) (h6 : Cond.initialized y.cls ∈ TG) (h5 : cd ∈ TG) : GoodIn TG (va_wsSU own idx y (cd :: TG)) := tgG (fun w hw => by
  rcases List.mem_append.mp hw with h | h
  · simp only [List.mem_cons, List.not_mem_nil, or_false] at h
    rcases h with h | h | h | h | h <;> (rw [h]; assumption)
  · exact tgC h5 w h)
theorem gI {cd : Cond} (h5 : cd ∈ TG) : GoodIn TG (cd :: TG) := tgG (tgC h5)
/-! what stays the same over a run: the classes, the array classes by g, the two statics that a throw reads -/
abbrev TY (g : Nat → ClassId) : List (ClassId × FieldType) := [(g 0, .int), (g 1, .long), (g 2, .char), (g 3, .boolean), (g 4, .double), (g 5, .byte), (g 6, .array .boolean), (g 7, .array .int), (g 8, .object "java/lang/Object")]
def NM (g : Nat → ClassId) (U : State) : Prop := U.vm.findClass "[I" = some (g 0) ∧ U.vm.findClass "[J" = some (g 1) ∧ U.vm.findClass "[C" = some (g 2) ∧ U.vm.findClass "[Z" = some (g 3) ∧ U.vm.findClass "[D" = some (g 4) ∧ U.vm.findClass "[B" = some (g 5)
def nwOk : Cond → Bool
  | .castable .. | .declares .. | .fieldLinkNest .. | .methodLinkNest .. => true
  | _ => false
def NWL : List Cond := tables_1.filter nwOk
theorem nw_tab {w : Cond} (h : nwOk w = true) : w.onTables = true := by
  cases w <;> first | rfl | (simp [nwOk] at h)
/-! calls through an interface: class, named method, method that runs -/
def FWL : List (String × MethodName × MethodName) := [("java/util/ArrayList", ⟨"java/util/List", "size", "()I"⟩, ⟨"java/util/ArrayList", "size", "()I"⟩), ("java/util/ArrayList", ⟨"java/util/List", "add", "(Ljava/lang/Object;)Z"⟩, ⟨"java/util/ArrayList", "add", "(Ljava/lang/Object;)Z"⟩), ("java/util/ArrayList", ⟨"java/util/List", "get", "(I)Ljava/lang/Object;"⟩, ⟨"java/util/ArrayList", "get", "(I)Ljava/lang/Object;"⟩), ("java/util/ArrayList", ⟨"java/util/List", "iterator", "()Ljava/util/Iterator;"⟩, ⟨"java/util/ArrayList", "iterator", "()Ljava/util/Iterator;"⟩), ("java/util/ArrayList$Itr", ⟨"java/util/Iterator", "hasNext", "()Z"⟩, ⟨"java/util/ArrayList$Itr", "hasNext", "()Z"⟩), ("java/util/ArrayList$Itr", ⟨"java/util/Iterator", "next", "()Ljava/lang/Object;"⟩, ⟨"java/util/ArrayList$Itr", "next", "()Ljava/lang/Object;"⟩), ("java/util/ArrayList", ⟨"java/util/List", "isEmpty", "()Z"⟩, ⟨"java/util/ArrayList", "isEmpty", "()Z"⟩), ("java/util/ArrayList", ⟨"java/util/List", "remove", "(I)Ljava/lang/Object;"⟩, ⟨"java/util/ArrayList", "remove", "(I)Ljava/lang/Object;"⟩), ("java/util/ArrayList", ⟨"java/util/List", "clear", "()V"⟩, ⟨"java/util/ArrayList", "clear", "()V"⟩), ("java/util/ArrayList", ⟨"java/util/List", "addAll", "(Ljava/util/Collection;)Z"⟩, ⟨"java/util/ArrayList", "addAll", "(Ljava/util/Collection;)Z"⟩), ("java/util/ArrayList", ⟨"java/util/Collection", "toArray", "()[Ljava/lang/Object;"⟩, ⟨"java/util/ArrayList", "toArray", "()[Ljava/lang/Object;"⟩), ("java/util/ArrayList", ⟨"java/util/List", "add", "(ILjava/lang/Object;)V"⟩, ⟨"java/util/ArrayList", "add", "(ILjava/lang/Object;)V"⟩)]
def FW (U : State) : Prop := ∀ q ∈ FWL, va_Fw q.1 q.2.1 q.2.2 U
theorem FWL_ok : ∀ q ∈ FWL, q.2.1.cls ≠ "java/lang/invoke/MethodHandle" ∧ q.2.1.cls ≠ "java/lang/invoke/VarHandle" := by decide +kernel
theorem FW.moved {u U : State} (hvm : u.vm.Alike U.vm) (h : FW u) : FW U := fun q hq => va_Fw.moved (FWL_ok q hq) hvm (h q hq)
/-! pairs of classes of which the one isn't the other's -/
def NCL : List (String × String) := [("java/lang/IllegalStateException", "java/lang/UnsupportedOperationException"), ("java/lang/ArrayIndexOutOfBoundsException", "java/lang/UnsupportedOperationException"), ("java/lang/IllegalArgumentException", "java/lang/UnsupportedOperationException"), ("java/lang/IndexOutOfBoundsException", "java/lang/UnsupportedOperationException"), ("java/util/NoSuchElementException", "java/lang/UnsupportedOperationException"), ("java/lang/ArithmeticException", "java/lang/UnsupportedOperationException"), ("java/lang/UnsupportedOperationException", "java/lang/IllegalStateException"), ("java/lang/ArrayIndexOutOfBoundsException", "java/lang/IllegalStateException"), ("java/lang/IllegalArgumentException", "java/lang/IllegalStateException"), ("java/lang/IndexOutOfBoundsException", "java/lang/IllegalStateException"), ("java/util/NoSuchElementException", "java/lang/IllegalStateException"), ("java/lang/ArithmeticException", "java/lang/IllegalStateException"), ("java/lang/UnsupportedOperationException", "java/lang/IllegalArgumentException"), ("java/lang/IllegalStateException", "java/lang/IllegalArgumentException"), ("java/lang/ArrayIndexOutOfBoundsException", "java/lang/IllegalArgumentException"), ("java/lang/IndexOutOfBoundsException", "java/lang/IllegalArgumentException"), ("java/util/NoSuchElementException", "java/lang/IllegalArgumentException"), ("java/lang/ArithmeticException", "java/lang/IllegalArgumentException"), ("java/lang/UnsupportedOperationException", "java/lang/IndexOutOfBoundsException"), ("java/lang/IllegalStateException", "java/lang/IndexOutOfBoundsException"), ("java/lang/IllegalArgumentException", "java/lang/IndexOutOfBoundsException"), ("java/util/NoSuchElementException", "java/lang/IndexOutOfBoundsException"), ("java/lang/ArithmeticException", "java/lang/IndexOutOfBoundsException"), ("java/lang/UnsupportedOperationException", "java/lang/ArithmeticException"), ("java/lang/IllegalStateException", "java/lang/ArithmeticException"), ("java/lang/ArrayIndexOutOfBoundsException", "java/lang/ArithmeticException"), ("java/lang/IllegalArgumentException", "java/lang/ArithmeticException"), ("java/lang/IndexOutOfBoundsException", "java/lang/ArithmeticException"), ("java/util/NoSuchElementException", "java/lang/ArithmeticException"), ("java/lang/UnsupportedOperationException", "java/util/NoSuchElementException"), ("java/lang/IllegalStateException", "java/util/NoSuchElementException"), ("java/lang/ArrayIndexOutOfBoundsException", "java/util/NoSuchElementException"), ("java/lang/IllegalArgumentException", "java/util/NoSuchElementException"), ("java/lang/IndexOutOfBoundsException", "java/util/NoSuchElementException"), ("java/lang/ArithmeticException", "java/util/NoSuchElementException")]
def NC (U : State) : Prop := ∀ q ∈ NCL, va_Nc q.1 q.2 U
theorem NC.moved {u U : State} (hvm : u.vm.Alike U.vm) (h : NC u) : NC U := fun q hq => va_Nc.moved hvm (h q hq)
/-! arrays of arrays, and of objects, are known classes -/
def kF (comp : ClassId) : Class → Bool := fun (x : Class) => match x.kind with | .array component _ => component == comp | _ => false
theorem idx_bare (vm : Vm) (comp : ClassId) : vm.bare.classes.findIdx? (kF comp) = vm.classes.findIdx? (kF comp) := by
  simp only [Vm.bare, Array.findIdx?_map]
  rfl
theorem AOA_spec {t : FieldType} {U : State} (h : va_AOA t U) : ∃ (comp c : ClassId) (k : Class), U.vm.findClass (FieldType.array t).toString = some comp ∧ (U.vm.classes.findIdx? (kF comp)) = some c ∧ U.vm.classes[c]? = some k ∧ k.kind = .array comp (.array t) ∧ U.vm.findClass ("[" ++ (FieldType.array t).toString) = some c := by
  unfold va_AOA Cond.before at h
  simp only [Cond.holds, Cond.value, beq_iff_eq] at h
  cases hc : U.vm.findClass (FieldType.array t).toString with
  | none => simp [hc] at h
  | some comp =>
    simp only [hc, Option.bind_some, Option.bind_eq_some_iff, Option.map_eq_some_iff] at h
    obtain ⟨c, hi, k, hk, hb⟩ := h
    obtain ⟨hlt, hp, -⟩ := Array.findIdx?_eq_some_iff_getElem.mp hi
    have hkk : U.vm.classes[c] = k := (Array.getElem?_eq_some_iff.mp hk).2
    rw [hkk] at hp
    cases hkind : k.kind with
    | array component ty =>
      rw [hkind] at hb hp
      simp at hb hp
      exact ⟨comp, c, k, rfl, hi, hk, by rw [hkind, hp, hb.1], hb.2⟩
    | _ => rw [hkind] at hb; simp at hb
theorem AOA_moved {t : FieldType} {u U : State} (hvm : u.vm.Alike U.vm) (h : va_AOA t u) : va_AOA t U := by
  obtain ⟨comp, c, k, h1, h2, h3, h4, h5⟩ := AOA_spec h
  obtain ⟨k', hk', he⟩ := hvm.2.2 _ _ h3
  have hi : (U.vm.classes.findIdx? (kF comp)) = some c := by
    rw [← idx_bare]
    first | rw [hvm.bare_eq] | rw [← hvm.bare_eq]
    rw [idx_bare]
    exact h2
  have hkind : k'.kind = .array comp (.array t) := by rw [he]; exact h4
  have f1 : U.vm.findClass (FieldType.array t).toString = some comp := by rw [hvm.findClass]; exact h1
  have f2 : U.vm.findClass ("[" ++ (FieldType.array t).toString) = some c := by rw [hvm.findClass]; exact h5
  unfold va_AOA Cond.before Cond.holds
  simp only [Cond.value]
  rw [f1, Option.bind_some]
  refine (congrArg (fun o : Option Nat => (o.bind (fun c => (U.vm.classes[c]?).map fun (k : Class) => match k.kind with | .array _ ty => decide (ty = FieldType.array t) && decide (U.vm.findClass ("[" ++ (FieldType.array t).toString) = some c) | _ => false) == some true)) hi).trans ?_
  simp [hk', hkind, f2]
def AR (U : State) : Prop := va_AOA .boolean U ∧ va_AOA .int U ∧ va_AO "java/lang/Object" U
theorem AR.moved {u U : State} (hvm : u.vm.Alike U.vm) (h : AR u) : AR U := ⟨AOA_moved hvm h.1, AOA_moved hvm h.2.1, va_AO.moved hvm h.2.2⟩
/-! the texts that the program names: their lengths and bytes; g (200 + i) is the i-th text's address, g (300 + i) its bytes' -/
def sOwn : List (Nat × String) := [(62, ""), (132, "aonrx"), (326, "wud"), (339, "spd"), (377, "zoa"), (448, "^v01zo"), (483, "stcia")]
def sLen : List Nat := [0, 5, 3, 3, 3, 6, 5]
def sByt : List (List Int32) := [[], [97, 111, 110, 114, 120], [119, 117, 100], [115, 112, 100], [122, 111, 97], [94, 118, 48, 49, 122, 111], [115, 116, 99, 105, 97]]
def SR (g : Nat → ClassId) (U : State) : Prop := ∀ i : Nat, i < 7 → vk_R "StuckatBenchModel" (sOwn.getD i (0, "")).1 (sOwn.getD i (0, "")).2 (g (200 + i)) U
def NW (g : Nat → ClassId) (U : State) : Prop := (∀ w ∈ NWL, va_Nw w U) ∧ FW U ∧ NC U ∧ AR U ∧ SR g U ∧ va_Mi "[Ljava/lang/Object;" (g 102) U
theorem NW.use {g : Nat → ClassId} {U : State} {a : Array Value} {w : Cond} (h : NW g U) (hw : w ∈ NWL) : w.before a U = true := va_Nw.use (nw_tab (List.mem_filter.mp hw).2) (h.1 w hw)
theorem NW.same {g : Nat → ClassId} {u U : State} (hvm : u.vm = U.vm) (h : NW g u) : NW g U := ⟨fun w hw => va_Nw.same (nw_tab (List.mem_filter.mp hw).2) hvm (h.1 w hw), h.2.1.moved (hvm ▸ Vm.Alike.refl u.vm), h.2.2.1.moved (hvm ▸ Vm.Alike.refl u.vm), h.2.2.2.1.moved (hvm ▸ Vm.Alike.refl u.vm), fun i hi => vk_R.same hvm.symm (h.2.2.2.2.1 i hi), va_Mi.moved (hvm ▸ Vm.Alike.refl u.vm) h.2.2.2.2.2⟩
theorem NW.warm {g : Nat → ClassId} {s U : State} (hW : s.WarmedH U.vm) (h : NW g s) : NW g U := by
  refine ⟨?_, h.2.1.moved hW.alike, h.2.2.1.moved hW.alike, h.2.2.2.1.moved hW.alike, fun i hi => vk_R.warm hW (h.2.2.2.2.1 i hi), va_Mi.moved hW.alike h.2.2.2.2.2⟩
  intro w hw
  have h1 := (List.mem_filter.mp hw).2
  have h2 := h.1 w hw
  cases w <;> first | exact va_Nw.warmF hW h2 | exact va_Nw.warmM hW h2 | exact va_Nw.warmD hW h2 | exact va_Nw.warmC hW h2 | (simp [nwOk] at h1)
def KK (D : va_G) (g : Nat → ClassId) (U : State) : Prop := va_K D vwCl (TY g) U ∧ NM g U ∧ NW g U
theorem NM.moved {g : Nat → ClassId} {u U : State} (hvm : u.vm.Alike U.vm) (h : NM g u) : NM g U := by
  unfold NM at h ⊢
  simp only [hvm.findClass]
  exact h
theorem KK.same {D : va_G} {g : Nat → ClassId} {u U : State} (hvm : u.vm = U.vm) (h : KK D g u) : KK D g U := ⟨va_K.moved (hvm ▸ Vm.Alike.refl u.vm) h.1, h.2.1.moved (hvm ▸ Vm.Alike.refl u.vm), h.2.2.same hvm⟩
theorem KK.warm {D : va_G} {g : Nat → ClassId} {s U : State} (hW : s.WarmedH U.vm) (h : KK D g s) : KK D g U := ⟨va_K.moved hW.alike h.1, h.2.1.moved hW.alike, h.2.2.warm hW⟩
/-- what stands from the start and nobody writes: the JDK's statics, the texts, the small Integers -/
def ZM (g : Nat → ClassId) (A : Nat → Prop) (U : State) (H : Heap) : Prop :=
  va_Z "java/util/ArrayList" "DEFAULTCAPACITY_EMPTY_ELEMENTDATA" "[Ljava/lang/Object;" (.ref (g 100)) A U H ∧
  va_T (.object "java/lang/Object") (g 100) 0 (fun _ => .null) A U H ∧
  vk_S 7 sLen sByt (fun i => g (200 + i)) (fun i => g (300 + i)) A U H ∧
  va_Z "java/lang/String" "COMPACT_STRINGS" "Z" (.int 1) A U H ∧
  va_Z "java/lang/Integer$IntegerCache" "high" "I" (.int 127) A U H ∧
  va_Z "java/lang/Integer$IntegerCache" "cache" "[Ljava/lang/Integer;" (.ref (g 101)) A U H ∧
  va_T (.object "java/lang/Integer") (g 101) 256 (fun j => .ref (g (1000 + j))) A U H ∧
  vb_C (fun j => g (1000 + j)) A U H ∧
  va_O "[Ljava/lang/Object;" (g 100) A U H
theorem ZM.moved {g : Nat → ClassId} {A : Nat → Prop} {u U : State} {H : Heap} (hvm : u.vm.Alike U.vm) (h : ZM g A u H) : ZM g A U H :=
  ⟨va_Z.moved hvm h.1, va_T.moved hvm h.2.1, vk_S.moved hvm h.2.2.1, va_Z.moved hvm h.2.2.2.1, va_Z.moved hvm h.2.2.2.2.1, va_Z.moved hvm h.2.2.2.2.2.1, va_T.moved hvm h.2.2.2.2.2.2.1, vb_C.moved hvm h.2.2.2.2.2.2.2.1, va_O.moved hvm h.2.2.2.2.2.2.2.2⟩
theorem ZM.kept {g : Nat → ClassId} {A : Nat → Prop} {U : State} {H H1 : Heap} (h : ZM g A U H) (hq : ∀ a : Nat, a < H.size → ¬ A a → H1[a]? = H[a]?) : ZM g A U H1 :=
  ⟨h.1.kept hq, h.2.1.kept hq, h.2.2.1.kept hq, h.2.2.2.1.kept hq, h.2.2.2.2.1.kept hq, h.2.2.2.2.2.1.kept hq, h.2.2.2.2.2.2.1.kept hq, h.2.2.2.2.2.2.2.1.kept hq, h.2.2.2.2.2.2.2.2.kept hq⟩
theorem ZM.narrow {g : Nat → ClassId} {A B : Nat → Prop} {U : State} {H : Heap} (h : ZM g A U H) (hAB : ∀ q, B q → A q) : ZM g B U H :=
  ⟨h.1.narrow hAB, h.2.1.narrow hAB, h.2.2.1.narrow hAB, h.2.2.2.1.narrow hAB, h.2.2.2.2.1.narrow hAB, h.2.2.2.2.2.1.narrow hAB, h.2.2.2.2.2.2.1.narrow hAB, h.2.2.2.2.2.2.2.1.narrow hAB, h.2.2.2.2.2.2.2.2.narrow hAB⟩
def ZZ (g : Nat → ClassId) (z0 : Nat) (U : State) : Prop := vx_Zq Bundle.tN "UNASSIGNED_STACK" Bundle.steD (fun q => z0 ≤ q) U U.heap ∧ vx_Zq Bundle.tN "SUPPRESSED_SENTINEL" Bundle.listD (fun q => z0 ≤ q) U U.heap ∧ ZM g (fun q => z0 ≤ q) U U.heap
theorem ZZ.to {g : Nat → ClassId} {z0 : Nat} {s U : State} (h : ZZ g z0 s) (hvm : s.vm.Alike U.vm) (hq : ∀ a : Nat, a < s.heap.size → ¬ z0 ≤ a → U.heap[a]? = s.heap[a]?) : ZZ g z0 U :=
  ⟨(h.1.moved hvm).kept hq, (h.2.1.moved hvm).kept hq, (h.2.2.moved hvm).kept hq⟩
theorem ZZ.m {g : Nat → ClassId} {z0 : Nat} {s : State} {A : Nat → Prop} (h : ZZ g z0 s) (hA : ∀ q, A q → z0 ≤ q) : ZM g A s s.heap := h.2.2.narrow hA
/-- the start of a contract: the heap's size, the world ws, the launch's constants -/
def PP (D : va_G) (g : Nat → ClassId) (z0 sz : Nat) (ws : va_W) (U : State) : Prop := U.heap.size = sz ∧ z0 ≤ sz ∧ va_P D vwCl ws U.heap ∧ va_D (fun q => z0 ≤ q) ws ∧ KK D g U ∧ ZZ g z0 U
theorem PP.blind {D : va_G} {g : Nat → ClassId} {z0 sz : Nat} {ws : va_W} {As : List Value} : FrameBlind (va_Pc As (PP D g z0 sz ws)) := by
  intro a U fr mk h
  obtain ⟨h0, h1, h2, h3, h4, h5, h6⟩ := h
  exact ⟨h0, h1, h2, h3, h4, KK.same (u := U) (U := U.calling fr mk a) rfl h5, ZZ.to (s := U) (U := U.calling fr mk a) h6 (Vm.Alike.refl U.vm) (fun _ _ _ => rfl)⟩
theorem PP.mk' {D : va_G} {g : Nat → ClassId} {z0 : Nat} {ws : va_W} {As : List Value} {s : State} {H : Heap} {locs : List Loc} {A : Nat → Prop} (hK : KK D g s) (hZ : ZZ g z0 s) (hz : z0 ≤ s.heap.size) (hAz : ∀ q, A q → z0 ≤ q) (hS : va_S A s.heap H locs) (hP : va_P D vwCl ws H) (hD : va_D (fun q => z0 ≤ q) ws) :
    ∀ U : State, U.heap = H → s.WarmedH U.vm → va_Pc As (PP D g z0 H.size ws) As.toArray U := by
  intro U hU hW
  refine ⟨rfl, by rw [hU], Nat.le_trans hz hS.1, by rw [hU]; exact hP, hD, hK.warm hW, hZ.to hW.alike ?_⟩
  intro a ha hn
  rw [hU]
  exact hS.2.1 a ha (fun h => hn (hAz a h))
/-- a world that a call which writes nothing old leaves -/
theorem ro1 {D : va_G} {cl : List vw_C} {ws : va_W} {H H1 : Heap} (hP : va_P D cl ws H) (hk : ∀ q : Nat, q < H.size → ¬ va_A [] H.size q → H1[q]? = H[q]?) : va_P D cl ws H1 :=
  hP.kept (fun k q hq => hk q.1 ((hP k q hq).lt) (fun h => by
    rcases h with ⟨k9, e9, h9⟩ | h9
    · simp at h9
    · exact Nat.lt_irrefl _ (Nat.lt_of_lt_of_le ((hP k q hq).lt) h9)))
/-- the old world under what has been written since in new cells alone -/
theorem ro0 {D : va_G} {cl : List vw_C} {ws : va_W} {H0 H : Heap} {locs : List Loc} (hP : va_P D cl ws H0) (hS : va_S (va_A [] H0.size) H0 H locs) : va_P D cl ws H := ro1 hP hS.2.1
theorem va_D.to {A B : Nat → Prop} {ws : va_W} (h : va_D A ws) (hAB : ∀ q, A q → B q) : va_D B ws := ⟨h.1, fun k q hq => hAB _ (h.2 k q hq)⟩
theorem A0z {z0 sz : Nat} (hz : z0 ≤ sz) : ∀ q, va_A [] sz q → z0 ≤ q := by
  intro q h
  rcases h with ⟨k9, e9, h9⟩ | h9
  · simp at h9
  · exact Nat.le_trans hz h9
theorem Awz {z0 sz : Nat} {ws : va_W} (hz : z0 ≤ sz) (hD : va_D (fun q => z0 ≤ q) ws) : ∀ q, va_A ws sz q → z0 ≤ q := by
  intro q h
  rcases h with ⟨k9, e9, h9⟩ | h9
  · exact hD.2 k9 _ h9
  · exact Nat.le_trans hz h9
theorem AnF {sz sz' : Nat} (h : sz ≤ sz') : ∀ q, va_A [] sz' q → va_A [] sz q := by
  intro q h1
  rcases h1 with ⟨k9, e9, h9⟩ | h9
  · simp at h9
  · exact Or.inr (Nat.le_trans h h9)
theorem AnA {ws : va_W} {sz sz' : Nat} (h : sz ≤ sz') : ∀ q, va_A [] sz' q → va_A ws sz q := by
  intro q h1
  rcases h1 with ⟨k9, e9, h9⟩ | h9
  · simp at h9
  · exact Or.inr (Nat.le_trans h h9)
theorem Anw {ws : va_W} {sz : Nat} : ∀ q, sz ≤ q → va_A ws sz q := fun _ h => Or.inr h
abbrev rmk (f c s n : Nat) : Room := { frames := f, cells := c, slots := s, locals := n }
/-- a contract from its body's walk: what is at hand at the start -/
theorem met0 {l : Launch} {y : MethodName} {cc : ByteArray} {n : Nat} {ret : Option FieldType} {rm : Room} {As : List Value} {D : va_G} {g : Nat → ClassId} {z0 sz : Nat} {ws : va_W} {Qc : Array Value → State → Outcome → State → Prop} {mc ms : Nat} {free : Addr → Prop}
    (hy : plainName y.cls = true) (hn : (lg_sl As).length ≤ n)
    (body : ∀ (p : Program) (e : Env) (s : State) (m : MethodId) (args : Array Value) (below : List Frame) (meth : Method) (c : Code), p.tables.exec = Jvm.exec → c.code = cc → meth.sig.returnType = ret → c.maxLocals = n → s.vm.findClass y.cls = some m.cls → (∀ w ∈ TG, w.before args s = true) → meth.locks = false → meth.name = y.name →
      va_P D vwCl ws s.heap → va_D (fun q => z0 ≤ q) ws → KK D g s → ZZ g z0 s → s.heap.size = sz → z0 ≤ s.heap.size → ∀ ls : Array Slot, lv_has ls n (lv_args 0 As) →
      W p l e rm s m args below meth c s.heap [] 0 0 (MQ below Qc args s mc ms free) (F0 m 0 ls [])) :
    Met l y (.code y cc n ret :: TG) rm (va_Pc As (PP D g z0 sz ws)) Qc mc ms free := by
  refine Met.ofW (cc := cc) (maxL := n) (ret := ret) hy rfl ?_
  intro p e s m args below meth c s₁ B hml hv
  obtain ⟨rfl, hsz, hz, hP, hD, hK, hZ⟩ := hv
  have hts := atoms_spec (ws := Cond.code y cc n ret :: TG) B.pre
  have hl := lv_entry As (n := n) hn
  rw [lg_entry_eq]
  exact body p e s m _ below meth c B.exec B.bytes B.returns hml (findClass_of_methodNamed B.named) (fun w h => hts w (List.mem_cons_of_mem _ h)) B.notSynchronized (name_of_methodNamed B.named B.method).1 hP hD hK hZ hsz (hsz ▸ hz) _ hl
theorem vxm0 {l : Launch} {y : MethodName} {cc : ByteArray} {n : Nat} {ret : Option FieldType} {rm : Room} {As : List Value} {D : va_G} {g : Nat → ClassId} {z0 sz : Nat} {ws : va_W} {Qc : Array Value → State → Outcome → State → Prop} {XC : String → State → State → Prop} {mc ms : Nat} {free : Addr → Prop}
    (hy : plainName y.cls = true) (hn : (lg_sl As).length ≤ n)
    (body : ∀ (p : Program) (e : Env) (s : State) (m : MethodId) (args : Array Value) (below : List Frame) (meth : Method) (c : Code), p.tables.exec = Jvm.exec → c.code = cc → meth.sig.returnType = ret → c.maxLocals = n → (∀ x ∈ c.exceptionTable.toList, False) → s.vm.findClass y.cls = some m.cls → (∀ w ∈ TG, w.before args s = true) → meth.locks = false → meth.name = y.name →
      va_P D vwCl ws s.heap → va_D (fun q => z0 ≤ q) ws → KK D g s → ZZ g z0 s → s.heap.size = sz → z0 ≤ s.heap.size → ∀ ls : Array Slot, lv_has ls n (lv_args 0 As) →
      W p l e rm s m args below meth c s.heap [] 0 0 (vx_MQ below Qc XC args s mc ms free) (F0 m 0 ls [])) :
    vx_Met l y (.code y cc n ret :: TG) rm (va_Pc As (PP D g z0 sz ws)) Qc XC mc ms free := by
  refine vx_ofW (cc := cc) (maxL := n) (ret := ret) hy rfl ?_
  intro p e s m args below meth c s₁ B hml htab hv
  obtain ⟨rfl, hsz, hz, hP, hD, hK, hZ⟩ := hv
  have hts := atoms_spec (ws := Cond.code y cc n ret :: TG) B.pre
  have hl := lv_entry As (n := n) hn
  rw [lg_entry_eq]
  exact body p e s m _ below meth c B.exec B.bytes B.returns hml htab (findClass_of_methodNamed B.named) (fun w h => hts w (List.mem_cons_of_mem _ h)) B.notSynchronized (name_of_methodNamed B.named B.method).1 hP hD hK hZ hsz (hsz ▸ hz) _ hl
