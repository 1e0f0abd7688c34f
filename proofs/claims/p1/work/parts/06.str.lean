/-- the classes of int[][] and int[], as the start has them -/
def AoF (s0 : State) : Prop := ∃ (cA comp cc : ClassId) (kA kC : Class), s0.vm.findClass "[[I" = some cA ∧ s0.vm.classes[cA]? = some kA ∧ kA.kind = .array comp (.array .int) ∧ s0.vm.classes[comp]? = some kC ∧ kC.kind = .array cc .int
theorem AoF.at {s0 s : State} (h : AoF s0) (hv : s0.vm.Alike s.vm) : AoF s := by
  obtain ⟨cA, comp, cc, kA, kC, h1, h2, h3, h4, h5⟩ := h
  obtain ⟨kA', g2, e2⟩ := hv.2.2 _ _ h2
  obtain ⟨kC', g4, e4⟩ := hv.2.2 _ _ h4
  exact ⟨cA, comp, cc, kA', kC', by rw [hv.findClass]; exact h1, g2, by rw [e2]; exact h3, g4, by rw [e4]; exact h5⟩
theorem ao_of {args : Array Value} {s : State} (h : (Cond.arrayOver (.array .int)).before args s = true) (ha : (Cond.arrayClass .int).before args s = true) : AoF s := by
  obtain ⟨c, k, cc, g1, g2, g3⟩ := Cond.arrayClass_spec ha
  have g1' : s.vm.findClass (FieldType.array FieldType.int).toString = some c := g1
  simp only [Cond.before, Cond.holds, Cond.value, beq_iff_eq, g1', Option.bind_some, Option.bind_eq_some_iff, Option.map_eq_some_iff] at h
  obtain ⟨cA, hi, kA, hk, hb⟩ := h
  obtain ⟨hlt, hp, -⟩ := Array.findIdx?_eq_some_iff_getElem.mp hi
  have hkk : s.vm.classes[cA] = kA := (Array.getElem?_eq_some_iff.mp hk).2
  rw [hkk] at hp
  cases hkind : kA.kind with
  | array component ty =>
    rw [hkind] at hb hp
    simp at hb hp
    exact ⟨cA, c, cc, kA, k, hb.2, hk, by rw [hkind, hp, hb.1], g2, g3⟩
  | _ => rw [hkind] at hb; simp at hb
/-- the literal "wroctsp" as the start has it, its bytes, and that strings are compact -/
def StrF (s0 : State) (qs qv : Nat) (fb : Nat → Value) : Prop :=
  vk_R "ChipMap$Layout" 27 "wroctsp" qs s0 ∧ va_O "java/lang/String" qs (fun q => s0.heap.size ≤ q) s0 s0.heap ∧ va_OF "java/lang/String" "value" "[B" (.ref qv) qs (fun q => s0.heap.size ≤ q) s0 s0.heap ∧ va_OF "java/lang/String" "coder" "B" (.int 0) qs (fun q => s0.heap.size ≤ q) s0 s0.heap ∧ va_T .byte qv 7 fb (fun q => s0.heap.size ≤ q) s0 s0.heap ∧ va_Z "java/lang/String" "COMPACT_STRINGS" "Z" (.int 1) (fun q => s0.heap.size ≤ q) s0 s0.heap
/-- the links among nest mates, and the class of int[][], as the start has them -/
def NwF (s0 : State) : Prop := va_Nw (.methodLinkNest "ChipMap" 11 ⟨"ChipMap$Draft", "<init>", "()V"⟩ "ChipMap") s0 ∧ va_Nw (.methodLinkNest "ChipMap$Draft" 50 ⟨"ChipMap$Rules", "<init>", "()V"⟩ "ChipMap") s0 ∧ va_Nw (.methodLinkNest "ChipMap$Layout" 57 ⟨"ChipMap$Rules", "<init>", "()V"⟩ "ChipMap") s0 ∧ va_Nw (.methodLinkNest "ChipMap$Device" 11 ⟨"ChipMap$Log", "<init>", "()V"⟩ "ChipMap") s0 ∧ AoF s0
section SF
variable {s0 s : State} {qs qv : Nat} {fb : Nat → Value} {A : Nat → Prop}
theorem StrF.o (h : StrF s0 qs qv fb) (hO : Old s0 s) (hAO : ∀ q, A q → s0.heap.size ≤ q) : va_O "java/lang/String" qs A s s.heap := ((va_O.moved hO.1.alike h.2.1).kept (fun a h _ => hO.2.2 a h)).narrow hAO
theorem StrF.v (h : StrF s0 qs qv fb) (hO : Old s0 s) (hAO : ∀ q, A q → s0.heap.size ≤ q) : va_OF "java/lang/String" "value" "[B" (.ref qv) qs A s s.heap := ((va_OF.moved hO.1.alike h.2.2.1).kept (fun a h _ => hO.2.2 a h)).narrow hAO
theorem StrF.c (h : StrF s0 qs qv fb) (hO : Old s0 s) (hAO : ∀ q, A q → s0.heap.size ≤ q) : va_OF "java/lang/String" "coder" "B" (.int 0) qs A s s.heap := ((va_OF.moved hO.1.alike h.2.2.2.1).kept (fun a h _ => hO.2.2 a h)).narrow hAO
theorem StrF.t (h : StrF s0 qs qv fb) (hO : Old s0 s) (hAO : ∀ q, A q → s0.heap.size ≤ q) : va_T .byte qv 7 fb A s s.heap := ((va_T.moved hO.1.alike h.2.2.2.2.1).kept (fun a h _ => hO.2.2 a h)).narrow hAO
theorem StrF.z (h : StrF s0 qs qv fb) (hO : Old s0 s) (hAO : ∀ q, A q → s0.heap.size ≤ q) : va_Z "java/lang/String" "COMPACT_STRINGS" "Z" (.int 1) A s s.heap := ((va_Z.moved hO.1.alike h.2.2.2.2.2).kept (fun a h _ => hO.2.2 a h)).narrow hAO
theorem StrF.recv {H : Heap} {locs : List Loc} (h : StrF s0 qs qv fb) (hO : Old s0 s) (hAO : ∀ q, A q → s0.heap.size ≤ q) (hS : va_S A s.heap H locs) : ∃ cell : Cell, H[qs]? = some cell ∧ cell.vm.isStatics = false ∧ s.vm.findClass "java/lang/String" = some cell.cls := by
  obtain ⟨cell, h1, h2, h3, -⟩ := (h.o hO hAO).kept hS.2.1
  exact ⟨cell, h1, h2, h3⟩
end SF
section MN
variable {p : Program} {l : Launch} {e : Env} {R : Room} {s : State} {m : MethodId} {args : Array Value} {below : List Frame} {meth : Method} {c : Code} {T : State} {locs : List Loc} {cells slots : Nat}
/-- what has been made when i rows lie: a stand, with all older cells as they were, and the outer array -/
def MnI (p : Program) (l : Launch) (e : Env) (R : Room) (s : State) (m : MethodId) (args : Array Value) (below : List Frame) (meth : Method) (c : Code) (T : State) (locs : List Loc) (cells slots : Nat) (cA : ClassId) (g : JFrame) (rest : List Nat) (s' : State) : Prop :=
  ∃ (i : Nat) (T' : State), i ≤ 7 ∧ rest = List.range' i (7 - i) ∧ s' = T'.setTop g ∧ Stand p l e R s m args below meth c T' locs (cells + 1 + i) (slots + 7 + i * 16) ∧ T'.vm = T.vm ∧ T.heap.size < T'.heap.size ∧ (∀ q, q < T.heap.size → T'.heap[q]? = T.heap[q]?) ∧ ∃ cell : Cell, T'.heap[T.heap.size]? = some cell ∧ cell.cls = cA ∧ cell.vm = .none ∧ cell.slots.size = 7
theorem mn_make (X : Stand p l e R s m args below meth c T locs cells slots) {g : JFrame} {cA comp cc : ClassId} {kA kC : Class} (hkA : T.vm.classes[cA]? = some kA) (hkindA : kA.kind = .array comp (.array .int)) (hkC : T.vm.classes[comp]? = some kC) (hkindC : kC.kind = .array cc .int) (hcells : cells + 8 ≤ R.cells) (hslots : slots + 119 ≤ R.slots)
    {E : CtlPost} {d : Bool} {acts : List Action} {Q : Addr → Pre}
    (hq : ∀ (T' : State) (d' : Bool) (acts' : List Action), Stand p l e R s m args below meth c T' locs (cells + 8) (slots + 119) → T.heap.size < T'.heap.size → (∀ q, q < T.heap.size → T'.heap[q]? = T.heap[q]?) → Q T.heap.size d' acts' (T'.setTop g)) :
    wp (multianewarray.make cA [7, 16]) Q E e d acts (T.setTop g) := by
  have hlim : e.platform.arrayLengthLimit = 2147483645 := Launch.admits_arrayLengthLimit X.admits
  have hmax : e.platform.maxHeapBytes = 536870912 := Launch.admits_maxHeapBytes X.admits
  obtain ⟨hr1, hr2⟩ := X.roomAbove hcells hslots
  have hss : s.heap.size ≤ T.heap.size := X.same.2.1
  have n7 : (7 : Int32).toNatClampNeg = 7 := by decide
  have n16 : (16 : Int32).toNatClampNeg = 16 := by decide
  have p7 : ¬ (7 : Int32) < 0 := by decide
  have p16 : ¬ (16 : Int32) < 0 := by decide
  have hfind : ([(16 : Int32)].find? (· < 0)) = none := by decide
  rw [multianewarray.make]
  simp only [wp_bind', W.ite, p7, if_false, wp_pure', W.theClass, State.vm_setTop, hkA, hkindA, Option.some.injEq, exists_eq_left']
  refine W.newArray_of (by rw [State.vm_setTop]; exact hkA) hkindA (by rw [n7, hlim]; omega) (by rw [n7, hmax]; show ¬ 7 * 4 > _; omega) (by rw [State.heap_setTop]; omega) (by rw [n7]; show T.slotsUsed + 7 ≤ _; omega) rfl (fun acts1 => ?_)
  simp only [hfind, ite_self]
  rw [wp_bind', Std.Legacy.Range.forIn_eq_forIn_range']
  have hsz : ([:(7 : Int32).toNatClampNeg] : Std.Legacy.Range).size = 7 := by rw [n7]; rfl
  rw [hsz]
  show wp (forIn (List.range' 0 7 1) PUnit.unit _) _ E e d acts1 _
  refine wp_forIn_inv (MnI p l e R s m args below meth c T locs cells slots cA g) _ _ ?_ ?_ ?_
  · refine ⟨0, T.pushCell { cls := cA, slots := Array.replicate 7 .null, vm := .none }, by omega, rfl, ?_, ?_, rfl, ?_, ?_, { cls := cA, slots := Array.replicate 7 .null, vm := .none }, ?_, rfl, rfl, by simp⟩
    · rw [State.pushCell_setTop, n7]
    · have h := X.pushed { cls := cA, slots := Array.replicate 7 .null, vm := .none }
      simpa using h
    · simp
    · intro q hq'
      exact State.heap_pushCell_of_lt _ _ hq'
    · simp
  · rintro x rest s' d' acts' Q' ⟨i, T', hi, hl, rfl, X', hvm, hlt0, hold, cell, hcell, hcls, hcvm, hcsz⟩ hnext
    have hlt : i < 7 := by
      rcases Nat.lt_or_ge i 7 with h | h
      · exact h
      · rw [show 7 - i = 0 from by omega] at hl; simp at hl
    obtain ⟨rfl, hrest⟩ : x = i ∧ rest = List.range' (i + 1) (7 - (i + 1)) := by
      rw [show 7 - i = (7 - (i + 1)) + 1 from by omega, List.range'_succ] at hl
      exact ⟨(List.cons.inj hl).1, (List.cons.inj hl).2⟩
    obtain ⟨hc1, hc2⟩ := X'.roomAbove (a := 1) (b := 16) (by omega) (by omega)
    simp only [wp_bind']
    rw [multianewarray.make]
    simp only [wp_bind', W.ite, p16, if_false, wp_pure', W.theClass, State.vm_setTop, hvm, hkC, hkindC, Option.some.injEq, exists_eq_left']
    refine W.newArray_of (by rw [State.vm_setTop, hvm]; exact hkC) hkindC (by rw [n16, hlim]; omega) (by rw [n16, hmax]; show ¬ 16 * 4 > _; omega) (by rw [State.heap_setTop]; omega) (by rw [n16]; show T'.slotsUsed + 16 ≤ _; omega) rfl (fun acts2 => ?_)
    have hcell' : (T'.pushCell { cls := comp, slots := Array.replicate 16 (defaultValue .int), vm := .none }).heap[T.heap.size]? = some cell := by rw [State.heap_pushCell_of_lt _ _ hlt0]; exact hcell
    simp only [W.writeLoc, wp_pure', State.pushCell_setTop, n16, State.heap_setTop]
    refine ⟨cell, hcell', by rw [hcvm]; simp, by rw [hcsz]; exact hlt, ?_, hnext _ _ _ ⟨x + 1, (T'.pushCell { cls := comp, slots := Array.replicate 16 (defaultValue .int), vm := .none }).setCell T.heap.size (cell.setSlot x (.ref T'.heap.size)), hlt, hrest, ?_, ?_, hvm, ?_, ?_, cell.setSlot x (.ref T'.heap.size), ?_, hcls, hcvm, by simp [Cell.setSlot, hcsz]⟩⟩
    · rw [hcls, hcvm]
      simp [State.fitsSlot, State.slotType?, hvm, hkA, hkindA, fits]
    · rw [State.setCell_setTop]
    · have h := (X'.pushed { cls := comp, slots := Array.replicate 16 (defaultValue .int), vm := .none }).stored hcell' x (.ref T'.heap.size)
      have h2 := Stand.forget h (fun y hy => by rw [List.mem_singleton.mp hy]; exact hss)
      have e3 : slots + 7 + (x + 1) * 16 = slots + 7 + x * 16 + 16 := by omega
      have e4 : cells + 1 + (x + 1) = cells + 1 + x + 1 := by omega
      rw [e3, e4]
      simpa using h2
    · simp [State.setCell]
      omega
    · intro q hq'
      rw [State.heap_setCell_other (Nat.ne_of_gt hq'), State.heap_pushCell_of_lt _ _ (Nat.lt_trans hq' hlt0)]
      exact hold q hq'
    · exact State.heap_setCell_self hcell'
  · rintro s' d' acts' ⟨i, T', hi, hl, rfl, X', hvm, hlt0, hold, -⟩
    have hiN : i = 7 := by
      rcases Nat.lt_or_ge i 7 with h | h
      · rw [show 7 - i = (7 - (i + 1)) + 1 from by omega, List.range'_succ] at hl; cases hl
      · omega
    subst hiN
    simp only [wp_pure', State.heap_setTop]
    exact hq T' d' acts' X' hlt0 hold
theorem instr_any {tb : Tables} [Ours tb] {e : Env} {below : List Frame} {s : State} {f : JFrame} {c : Code} (h : At s f.method c below) {G : State → Prop}
    (hw : match decode c.code f.pc with
      | .ok (i, len) => wpRun (tb.exec i) (fun _ s₁ _ => ∀ acts, G (afterInstr e len (.ok () s₁ acts)).1) (fun x s₁ _ => ∀ acts, G (afterInstr e len (.ctl x s₁ acts)).1) e (s.setTop f)
      | .error _ => False) : ∃ S1, G S1 ∧ ∀ target, Steps tb e below S1 target → Steps tb e below (s.setTop f) target := by
  refine ⟨(stepThread tb e (s.setTop f)).1, ?_, fun target h1 => Steps.head ⟨h.running, by rw [State.curStatus?_setTop]; exact h.runnable, by rw [State.alone_setTop]; exact h.alone⟩ (h.within f) h1⟩
  rcases hd : decode c.code f.pc with x | ⟨i, len⟩
  · rw [hd] at hw; exact hw.elim
  · rw [hd] at hw
    rw [stepThread_java (State.frames_setTop' f h.top) h.plain h.code hd]
    have hw := (wpRun_iff_run _ _ _ _ _).mp hw
    cases hr : (tb.exec i).run e (s.setTop f) with
    | ok a s₁ acts => rw [hr] at hw; exact hw acts
    | ctl x s₁ acts => rw [hr] at hw; cases x <;> first | exact hw acts | exact hw.elim
theorem mn_stand (X : Stand p l e R s m args below meth c T locs cells slots) (hexec : p.tables.exec = Jvm.exec) {own : String} {index : Nat} (hown : s.vm.findClass own = some m.cls) (hclink : (Cond.classLink own index "[[I").before args s = true) (ho : AoF s)
    {g : JFrame} (hg : g.method = m) (hdg : decode c.code g.pc = .ok (.multianewarray index 2, 4)) {rest : List Value} (hstack : g.stack = .int 16 :: .int 7 :: rest) (hcells : cells + 8 ≤ R.cells) (hslots : slots + 119 ≤ R.slots) :
    ∃ T' : State, Stand p l e R s m args below meth c T' locs (cells + 8) (slots + 119) ∧ T.heap.size < T'.heap.size ∧ (∀ q, q < T.heap.size → T'.heap[q]? = T.heap[q]?) ∧ ∀ target, Steps p.tables e below (T'.setTop { g with pc := g.pc + 4, stack := .ref T.heap.size :: rest }) target → Steps p.tables e below (T.setTop g) target := by
  subst hg
  have hpl : e.platform.magicAccessors = ({} : Platform).magicAccessors := by rw [X.admits.platform]
  obtain ⟨c0, hfc0, hcl⟩ := Cond.classLink_spec hown hclink e.platform hpl
  obtain ⟨hg₁, hwarm₁, hready₁⟩ := State.classEntry (e := e) X.warmed hcl
  generalize T.vm.noted g.method.cls index (.cls c0) = vm₁ at hg₁ hwarm₁ hready₁
  obtain ⟨cA, comp, cc, kA, kC, h1, h2, h3, h4, h5⟩ := ho.at (s := T.setVm vm₁) hwarm₁.alike
  have h1' : vm₁.findClass "[[I" = some cA := h1
  have e0 : cA = c0 := by
    rw [hwarm₁.alike.findClass] at h1'
    exact Option.some.inj (h1'.symm.trans hfc0)
  subst e0
  have X₁ := X.noted hwarm₁
  obtain ⟨S1, ⟨T', rfl, X', hlt, hold⟩, hst⟩ := instr_any (tb := p.tables) (e := e) (c := c) X.here (G := fun S1 => ∃ T' : State, S1 = T'.setTop { g with pc := g.pc + 4, stack := .ref T.heap.size :: rest } ∧ Stand p l e R s g.method args below meth c T' locs (cells + 8) (slots + 119) ∧ T.heap.size < T'.heap.size ∧ (∀ q, q < T.heap.size → T'.heap[q]? = T.heap[q]?)) (f := g) (by
    simp [jvm, wpRun, exec, X.here.top, hexec, hdg]
    simp only [multianewarray.sem, wp_bind', W.resolveClassAt_links (State.method?_setTop g X.here.top) hg₁]
    rw [W.popN, if_neg (by decide)]
    refine ⟨g, State.topJava?_setTop' (s := T.setVm vm₁) g X.here.top, [.int 7, .int 16], rest, rfl, hstack, ?_⟩
    simp only [List.mapM_cons, List.mapM_nil, wp_bind', wp_pure']
    have eS : ((T.setTop g).setVm vm₁).setTop { g with stack := rest } = (T.setVm vm₁).setTop { g with stack := rest } := by
      show ((T.setVm vm₁).setTop g).setTop _ = _
      rw [State.setTop_setTop]
    rw [eS]
    refine mn_make X₁ h2 h3 h4 h5 hcells hslots (fun T' d' acts' X' hlt hold => ?_)
    simp only [wp_bind', W.mark, W.pushRef, State.topJava?_setTop' _ X'.here.top, Option.some.injEq, exists_eq_left', State.setTop_setTop, State.heap_setTop]
    intro acts
    simp only [afterInstr_ok]
    exact ⟨T', rfl, X', hlt, hold⟩)
  exact ⟨T', X', hlt, hold, hst⟩
end MN
section MW
variable {p : Program} {l : Launch} {e : Env} {R : Room} {s : State} {m : MethodId} {args : Array Value} {below : List Frame} {meth : Method} {c : Code} {H : Heap} {locs : List Loc} {cells slots : Nat} {Q : State → Prop}
variable {cc : ByteArray} {pc : Nat} {ls : Array Slot} {rest : List Value} {D : va_G} {cl : List vw_C} {A : Nat → Prop} {ws : va_W} {H0 : Heap}
/-- new int[7][16], of which nothing is kept but that it is new -/
theorem nw_m (hexec : p.tables.exec = Jvm.exec) (hb : c.code = cc) {own : String} {index : Nat} (hown : s.vm.findClass own = some m.cls) (hclink : (Cond.classLink own index "[[I").before args s = true) (ho : AoF s)
    (hP : va_P D cl ws H) (hD : va_D A ws) (hS : va_S A H0 H locs) (hcells : cells + 8 ≤ R.cells) (hslots : slots + 119 ≤ R.slots) (hdg : decode cc pc = .ok (.multianewarray index 2, 4))
    (kk : ∀ (q : Nat) (H1 : Heap), va_P D cl ws H1 → va_D A ws → va_S A H0 H1 locs → W p l e R s m args below meth c H1 locs (cells + 8) (slots + 119) Q (F0 m (pc + 4) ls (.ref q :: rest))) : W p l e R s m args below meth c H locs cells slots Q (F0 m pc ls (.int 16 :: .int 7 :: rest)) := by
  intro T hT X
  subst hT; subst hb
  obtain ⟨T', X', hlt, hold, st⟩ := mn_stand X hexec hown hclink ho (g := F0 m pc ls (.int 16 :: .int 7 :: rest)) rfl hdg rfl hcells hslots
  obtain ⟨t, a1, b1⟩ := kk T.heap.size T'.heap (hP.kept (fun k q hq => hold q.1 ((hP k q hq).lt))) hD ⟨Nat.le_trans hS.1 (Nat.le_of_lt hlt), fun q h1 h2 => (hold q (Nat.lt_of_lt_of_le h1 hS.1)).trans (hS.2.1 q h1 h2), hS.2.2⟩ T' rfl X'
  exact ⟨t, st t a1, b1⟩
end MW
