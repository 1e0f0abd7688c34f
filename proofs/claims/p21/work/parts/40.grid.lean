-- instr_any: as in p1, part 06
theorem instr_any {tb : Tables} [Ours tb] {e : Env} {below : List Frame} {s : State} {f : JFrame} {c : Code} (h : At s f.method c below) {G : State → Prop}
    (hw : match decode c.code f.pc with
      | .ok (i, len) => wpRun (tb.exec i) (fun _ s₁ _ => ∀ acts, G (afterInstr e len (.ok () s₁ acts)).1) (fun x s₁ _ => ∀ acts, G (afterInstr e len (.ctl x s₁ acts)).1) e (s.setTop f)
      | .error _ => False) : ∃ S1, G S1 ∧ ∀ target, Steps tb e below S1 target → Steps tb e below (s.setTop f) target := by
  refine ⟨(stepThread tb e (s.setTop f)).1, ?_, fun target h1 => Steps.head ⟨h.running, by rw [State.curStatus?_setTop]; exact h.runnable, by rw [State.alone_setTop]; exact h.alone⟩ (h.within f) h1⟩
  rcases hd : decode c.code f.pc with x | ⟨i, len⟩
  · rw [hd] at hw; exact hw.elim
  · rw [hd] at hw
    rw [stepThread_java (State.frames_setTop' f h.top) h.plain h.code hd]
    have hw := (wpRun_iff_run _ _ _ _ _).mp hw
    cases hr : (tb.exec i).run e (s.setTop f) with
    | ok a s₁ acts => rw [hr] at hw; exact hw acts
    | ctl x s₁ acts => rw [hr] at hw; cases x <;> first | exact hw acts | exact hw.elim
-- new int[7][16], its rows kept: the outer array at q, its rows at q + 1 .. q + 7
def AoG (s0 : State) (cA comp : ClassId) : Prop := ∃ (cc : ClassId) (kA kC : Class), s0.vm.findClass "[[I" = some cA ∧ s0.vm.findClass "[I" = some comp ∧ s0.vm.classes[cA]? = some kA ∧ kA.kind = .array comp (.array .int) ∧ s0.vm.classes[comp]? = some kC ∧ kC.kind = .array cc .int
theorem AoG.at {s0 s : State} {cA comp : ClassId} (h : AoG s0 cA comp) (hv : s0.vm.Alike s.vm) : AoG s cA comp := by
  obtain ⟨cc, kA, kC, h1, h1', h2, h3, h4, h5⟩ := h
  obtain ⟨kA', g2, e2⟩ := hv.2.2 _ _ h2
  obtain ⟨kC', g4, e4⟩ := hv.2.2 _ _ h4
  exact ⟨cc, kA', kC', by rw [hv.findClass]; exact h1, by rw [hv.findClass]; exact h1', g2, by rw [e2]; exact h3, g4, by rw [e4]; exact h5⟩
theorem ag_of {args : Array Value} {s : State} (h : (Cond.arrayOver (.array .int)).before args s = true) (ha : (Cond.arrayClass .int).before args s = true) : ∃ cA comp, AoG s cA comp := by
  obtain ⟨c, k, cc, g1, g2, g3⟩ := Cond.arrayClass_spec ha
  have g1' : s.vm.findClass (FieldType.array FieldType.int).toString = some c := g1
  simp only [Cond.before, Cond.holds, Cond.value, beq_iff_eq, g1', Option.bind_some, Option.bind_eq_some_iff, Option.map_eq_some_iff] at h
  obtain ⟨cA, hi, kA, hk, hb⟩ := h
  obtain ⟨hlt, hp, -⟩ := Array.findIdx?_eq_some_iff_getElem.mp hi
  have hkk : s.vm.classes[cA] = kA := (Array.getElem?_eq_some_iff.mp hk).2
  rw [hkk] at hp
  cases hkind : kA.kind with
  | array component ty =>
    rw [hkind] at hb hp
    simp at hb hp
    exact ⟨cA, c, cc, kA, k, hb.2, g1, hk, by rw [hkind, hp, hb.1], g2, g3⟩
  | _ => rw [hkind] at hb; simp at hb
section MG
variable {p : Program} {l : Launch} {e : Env} {R : Room} {s : State} {m : MethodId} {args : Array Value} {below : List Frame} {meth : Method} {c : Code} {T : State} {locs : List Loc} {cells slots : Nat}
def MgI (p : Program) (l : Launch) (e : Env) (R : Room) (s : State) (m : MethodId) (args : Array Value) (below : List Frame) (meth : Method) (c : Code) (T : State) (locs : List Loc) (cells slots : Nat) (cA comp : ClassId) (g : JFrame) (rest : List Nat) (s' : State) : Prop :=
  ∃ (i : Nat) (T' : State), i ≤ 7 ∧ rest = List.range' i (7 - i) ∧ s' = T'.setTop g ∧ Stand p l e R s m args below meth c T' locs (cells + 1 + i) (slots + 7 + i * 16) ∧ T'.vm = T.vm ∧ T'.heap.size = T.heap.size + 1 + i ∧ (∀ q, q < T.heap.size → T'.heap[q]? = T.heap[q]?) ∧ (∃ a : Array Value, T'.heap[T.heap.size]? = some { cls := cA, slots := a, vm := .none } ∧ a.size = 7 ∧ ∀ j, j < i → a[j]? = some (.ref (T.heap.size + 1 + j))) ∧ ∀ j, j < i → T'.heap[T.heap.size + 1 + j]? = some { cls := comp, slots := Array.replicate 16 (.int 0), vm := .none }
theorem mg_make (X : Stand p l e R s m args below meth c T locs cells slots) {g : JFrame} {cA comp cc : ClassId} {kA kC : Class} (hkA : T.vm.classes[cA]? = some kA) (hkindA : kA.kind = .array comp (.array .int)) (hkC : T.vm.classes[comp]? = some kC) (hkindC : kC.kind = .array cc .int) (hcells : cells + 8 ≤ R.cells) (hslots : slots + 119 ≤ R.slots)
    {E : CtlPost} {d : Bool} {acts : List Action} {Q : Addr → Pre}
    (hq : ∀ (T' : State) (d' : Bool) (acts' : List Action), MgI p l e R s m args below meth c T locs cells slots cA comp g [] (T'.setTop g) → Q T.heap.size d' acts' (T'.setTop g)) :
    wp (multianewarray.make cA [7, 16]) Q E e d acts (T.setTop g) := by
  have hlim : e.platform.arrayLengthLimit = 2147483645 := Launch.admits_arrayLengthLimit X.admits
  have hmax : e.platform.maxHeapBytes = 536870912 := Launch.admits_maxHeapBytes X.admits
  obtain ⟨hr1, hr2⟩ := X.roomAbove hcells hslots
  have hss : s.heap.size ≤ T.heap.size := X.same.2.1
  have n7 : (7 : Int32).toNatClampNeg = 7 := by decide
  have n16 : (16 : Int32).toNatClampNeg = 16 := by decide
  have p7 : ¬ (7 : Int32) < 0 := by decide
  have p16 : ¬ (16 : Int32) < 0 := by decide
  have hfind : ([(16 : Int32)].find? (· < 0)) = none := by decide
  rw [multianewarray.make]
  simp only [wp_bind', W.ite, p7, if_false, wp_pure', W.theClass, State.vm_setTop, hkA, hkindA, Option.some.injEq, exists_eq_left']
  refine W.newArray_of (by rw [State.vm_setTop]; exact hkA) hkindA (by rw [n7, hlim]; omega) (by rw [n7, hmax]; show ¬ 7 * 4 > _; omega) (by rw [State.heap_setTop]; omega) (by rw [n7]; show T.slotsUsed + 7 ≤ _; omega) rfl (fun acts1 => ?_)
  simp only [hfind, ite_self]
  rw [wp_bind', Std.Legacy.Range.forIn_eq_forIn_range']
  have hsz : ([:(7 : Int32).toNatClampNeg] : Std.Legacy.Range).size = 7 := by rw [n7]; rfl
  rw [hsz]
  show wp (forIn (List.range' 0 7 1) PUnit.unit _) _ E e d acts1 _
  refine wp_forIn_inv (MgI p l e R s m args below meth c T locs cells slots cA comp g) _ _ ?_ ?_ ?_
  · refine ⟨0, T.pushCell { cls := cA, slots := Array.replicate 7 .null, vm := .none }, by omega, rfl, ?_, ?_, rfl, ?_, ?_, ⟨Array.replicate 7 .null, ?_, by simp, fun j hj => absurd hj (Nat.not_lt_zero j)⟩, fun j hj => absurd hj (Nat.not_lt_zero j)⟩
    · rw [State.pushCell_setTop, n7]
    · have h := X.pushed { cls := cA, slots := Array.replicate 7 .null, vm := .none }
      simpa using h
    · simp
    · intro q hq'
      exact State.heap_pushCell_of_lt _ _ hq'
    · simp
  · rintro x rest s' d' acts' Q' ⟨i, T', hi, hl, rfl, X', hvm, hsz', hold, ⟨a, hcell, hcsz, hca⟩, hrows⟩ hnext
    have hlt0 : T.heap.size < T'.heap.size := by omega
    have hlt : i < 7 := by
      rcases Nat.lt_or_ge i 7 with h | h
      · exact h
      · rw [show 7 - i = 0 from by omega] at hl; simp at hl
    obtain ⟨rfl, hrest⟩ : x = i ∧ rest = List.range' (i + 1) (7 - (i + 1)) := by
      rw [show 7 - i = (7 - (i + 1)) + 1 from by omega, List.range'_succ] at hl
      exact ⟨(List.cons.inj hl).1, (List.cons.inj hl).2⟩
    obtain ⟨hc1, hc2⟩ := X'.roomAbove (a := 1) (b := 16) (by omega) (by omega)
    simp only [wp_bind']
    rw [multianewarray.make]
    simp only [wp_bind', W.ite, p16, if_false, wp_pure', W.theClass, State.vm_setTop, hvm, hkC, hkindC, Option.some.injEq, exists_eq_left']
    refine W.newArray_of (by rw [State.vm_setTop, hvm]; exact hkC) hkindC (by rw [n16, hlim]; omega) (by rw [n16, hmax]; show ¬ 16 * 4 > _; omega) (by rw [State.heap_setTop]; omega) (by rw [n16]; show T'.slotsUsed + 16 ≤ _; omega) rfl (fun acts2 => ?_)
    have hcell' : (T'.pushCell { cls := comp, slots := Array.replicate 16 (defaultValue .int), vm := .none }).heap[T.heap.size]? = some { cls := cA, slots := a, vm := .none } := by rw [State.heap_pushCell_of_lt _ _ hlt0]; exact hcell
    simp only [W.writeLoc, wp_pure', State.pushCell_setTop, n16, State.heap_setTop]
    refine ⟨{ cls := cA, slots := a, vm := .none }, hcell', by simp, by rw [hcsz]; exact hlt, ?_, hnext _ _ _ ⟨x + 1, (T'.pushCell { cls := comp, slots := Array.replicate 16 (defaultValue .int), vm := .none }).setCell T.heap.size (({ cls := cA, slots := a, vm := .none } : Cell).setSlot x (.ref T'.heap.size)), hlt, hrest, ?_, ?_, hvm, ?_, ?_, ⟨a.setIfInBounds x (.ref T'.heap.size), ?_, by simp [hcsz], ?_⟩, ?_⟩⟩
    · simp [State.fitsSlot, State.slotType?, hvm, hkA, hkindA, fits]
    · rw [State.setCell_setTop]
    · have h := (X'.pushed { cls := comp, slots := Array.replicate 16 (defaultValue .int), vm := .none }).stored hcell' x (.ref T'.heap.size)
      have h2 := Stand.forget h (fun y hy => by rw [List.mem_singleton.mp hy]; exact hss)
      have e3 : slots + 7 + (x + 1) * 16 = slots + 7 + x * 16 + 16 := by omega
      have e4 : cells + 1 + (x + 1) = cells + 1 + x + 1 := by omega
      rw [e3, e4]
      simpa using h2
    · simp [State.setCell]
      omega
    · intro q hq'
      rw [State.heap_setCell_other (Nat.ne_of_gt hq'), State.heap_pushCell_of_lt _ _ (Nat.lt_trans hq' hlt0)]
      exact hold q hq'
    · exact State.heap_setCell_self hcell'
    · intro j hj
      rw [Array.getElem?_setIfInBounds]
      by_cases hjx : x = j
      · subst hjx
        have hx7 : x < a.size := by omega
        simp [hx7, hsz']
      · rw [if_neg hjx]
        exact hca j (by omega)
    · intro j hj
      have e1 : T.heap.size ≠ T.heap.size + 1 + j := by omega
      rw [State.heap_setCell_other e1]
      by_cases hjx : j = x
      · subst hjx
        rw [← hsz']
        simp [defaultValue]
      · have e2 : T.heap.size + 1 + j < T'.heap.size := by omega
        rw [State.heap_pushCell_of_lt _ _ e2]
        exact hrows j (by omega)
  · rintro s' d' acts' ⟨i, T', hi, hl, rfl, h2⟩
    simp only [wp_pure', State.heap_setTop]
    exact hq T' d' acts' ⟨i, T', hi, hl, rfl, h2⟩
end MG
theorem va_app {D : va_G} {cl : List vw_C} {H : Heap} {ws l : va_W} (h1 : va_P D cl ws H) (h2 : ∀ (j : Nat) (q : Nat × va_E), l[j]? = some q → va_at D cl q H) : va_P D cl (ws ++ l) H := by
  intro k q hk
  rcases Nat.lt_or_ge k ws.length with h | h
  · rw [List.getElem?_append_left h] at hk
    exact h1 k q hk
  · rw [List.getElem?_append_right h] at hk
    exact h2 _ q hk
theorem va_Dapp {A : Nat → Prop} {ws l : va_W} {z : Nat} (hD : va_D A ws) (hlt : ∀ (k : Nat) (q : Nat × va_E), ws[k]? = some q → q.1 < z) (hl : ∀ (j : Nat) (q : Nat × va_E), l[j]? = some q → q.1 = z + j) (hA : ∀ q, z ≤ q → A q) : va_D A (ws ++ l) := by
  constructor
  · intro i j p q hi hj hpq
    rcases Nat.lt_or_ge i ws.length with h | h
    · rw [List.getElem?_append_left h] at hi
      rcases Nat.lt_or_ge j ws.length with h' | h'
      · rw [List.getElem?_append_left h'] at hj
        exact hD.1 i j p q hi hj hpq
      · rw [List.getElem?_append_right h'] at hj
        have a1 := hlt i p hi
        have a2 := hl _ q hj
        omega
    · rw [List.getElem?_append_right h] at hi
      have a1 := hl _ p hi
      rcases Nat.lt_or_ge j ws.length with h' | h'
      · rw [List.getElem?_append_left h'] at hj
        have a2 := hlt j q hj
        omega
      · rw [List.getElem?_append_right h'] at hj
        have a2 := hl _ q hj
        omega
  · intro k q hk
    rcases Nat.lt_or_ge k ws.length with h | h
    · rw [List.getElem?_append_left h] at hk
      exact hD.2 k q hk
    · rw [List.getElem?_append_right h] at hk
      exact hA _ (by rw [hl _ q hk]; omega)
def gridW (q : Nat) (cA cI : ClassId) : va_W := [(q, .inl (cA, 7, .inr (.inr (.inr (.inr (fun i => some (q + 1 + i))))))), (q + 1, .inl (cI, 16, .inl (fun _ => 0))), (q + 2, .inl (cI, 16, .inl (fun _ => 0))), (q + 3, .inl (cI, 16, .inl (fun _ => 0))), (q + 4, .inl (cI, 16, .inl (fun _ => 0))), (q + 5, .inl (cI, 16, .inl (fun _ => 0))), (q + 6, .inl (cI, 16, .inl (fun _ => 0))), (q + 7, .inl (cI, 16, .inl (fun _ => 0)))]
section MH
variable {p : Program} {l : Launch} {e : Env} {R : Room} {s : State} {m : MethodId} {args : Array Value} {below : List Frame} {meth : Method} {c : Code} {H : Heap} {locs : List Loc} {cells slots : Nat} {Q : State → Prop}
variable {cc : ByteArray} {pc : Nat} {ls : Array Slot} {rest : List Value} {D : va_G} {cl : List vw_C} {A : Nat → Prop} {ws : va_W} {H0 : Heap} {cA comp : ClassId}
theorem row16 : ({ cls := comp, slots := Array.replicate 16 (.int 0), vm := .none } : Cell) = arrV comp 16 (fun _ => .int 0) := by
  unfold arrV
  congr 1
theorem nw_g (hexec : p.tables.exec = Jvm.exec) (hb : c.code = cc) {own : String} {index : Nat} (hown : s.vm.findClass own = some m.cls) (hclink : (Cond.classLink own index "[[I").before args s = true) (ho : AoG s cA comp)
    (hP : va_P D cl ws H) (hD : va_D A ws) (hS : va_S A H0 H locs) (hA : ∀ q, H0.size ≤ q → A q) (hcells : cells + 8 ≤ R.cells) (hslots : slots + 119 ≤ R.slots) (hdg : decode cc pc = .ok (.multianewarray index 2, 4))
    (kk : ∀ (q : Nat) (H1 : Heap), va_P D cl (ws ++ gridW q cA comp) H1 → va_D A (ws ++ gridW q cA comp) → va_S A H0 H1 locs → W p l e R s m args below meth c H1 locs (cells + 8) (slots + 119) Q (F0 m (pc + 4) ls (.ref q :: rest))) : W p l e R s m args below meth c H locs cells slots Q (F0 m pc ls (.int 16 :: .int 7 :: rest)) := by
  intro T hT X
  subst hT; subst hb
  have hpl : e.platform.magicAccessors = ({} : Platform).magicAccessors := by rw [X.admits.platform]
  obtain ⟨c0, hfc0, hcl⟩ := Cond.classLink_spec hown hclink e.platform hpl
  obtain ⟨hg₁, hwarm₁, hready₁⟩ := State.classEntry (e := e) X.warmed hcl
  generalize T.vm.noted m.cls index (.cls c0) = vm₁ at hg₁ hwarm₁ hready₁
  obtain ⟨cq, kA, kC, h1, h1', h2, h3, h4, h5⟩ := ho.at (s := T.setVm vm₁) hwarm₁.alike
  have h1'' : vm₁.findClass "[[I" = some cA := h1
  have e0 : cA = c0 := by
    rw [hwarm₁.alike.findClass] at h1''
    exact Option.some.inj (h1''.symm.trans hfc0)
  subst e0
  have X₁ := X.noted hwarm₁
  obtain ⟨S1, ⟨T', rfl, i, T2, hi, hl, e2, X', hvm, hsz, hold, ⟨a, hcell, hasz, ha⟩, hrows⟩, hst⟩ := instr_any (tb := p.tables) (e := e) (c := c) X.here (G := fun S1 => ∃ T' : State, S1 = T'.setTop { (F0 m pc ls (.int 16 :: .int 7 :: rest)) with pc := pc + 4, stack := .ref T.heap.size :: rest } ∧ MgI p l e R s m args below meth c (T.setVm vm₁) locs cells slots cA comp { (F0 m pc ls (.int 16 :: .int 7 :: rest)) with stack := rest } [] (T'.setTop { (F0 m pc ls (.int 16 :: .int 7 :: rest)) with stack := rest })) (f := F0 m pc ls (.int 16 :: .int 7 :: rest)) (by
    simp [jvm, wpRun, exec, X.here.top, hexec, hdg]
    simp only [multianewarray.sem, wp_bind', W.resolveClassAt_links (State.method?_setTop (F0 m pc ls (.int 16 :: .int 7 :: rest)) X.here.top) hg₁]
    rw [W.popN, if_neg (by decide)]
    refine ⟨F0 m pc ls (.int 16 :: .int 7 :: rest), State.topJava?_setTop' (s := T.setVm vm₁) _ X.here.top, [.int 7, .int 16], rest, rfl, rfl, ?_⟩
    simp only [List.mapM_cons, List.mapM_nil, wp_bind', wp_pure']
    have eS : ((T.setTop (F0 m pc ls (.int 16 :: .int 7 :: rest))).setVm vm₁).setTop { (F0 m pc ls (.int 16 :: .int 7 :: rest)) with stack := rest } = (T.setVm vm₁).setTop { (F0 m pc ls (.int 16 :: .int 7 :: rest)) with stack := rest } := by
      show ((T.setVm vm₁).setTop _).setTop _ = _
      rw [State.setTop_setTop]
    rw [eS]
    refine mg_make X₁ h2 h3 h4 h5 hcells hslots (fun T' d' acts' hI => ?_)
    obtain ⟨i, T2, hi, hl, e2, X', hr⟩ := id hI
    have ht : (T'.setTop { (F0 m pc ls (.int 16 :: .int 7 :: rest)) with stack := rest }).topJava? = some { (F0 m pc ls (.int 16 :: .int 7 :: rest)) with stack := rest } := by
      rw [e2]
      exact State.topJava?_setTop' _ X'.here.top
    simp only [wp_bind', W.mark, W.pushRef, ht, Option.some.injEq, exists_eq_left', State.setTop_setTop, State.heap_setTop]
    intro acts
    simp only [afterInstr_ok]
    exact ⟨T', rfl, hI⟩)
  obtain rfl : i = 7 := by
    rcases Nat.lt_or_ge i 7 with h | h
    · rw [show 7 - i = (7 - (i + 1)) + 1 from by omega, List.range'_succ] at hl; cases hl
    · omega
  have eT : ∀ g2 : JFrame, T'.setTop g2 = T2.setTop g2 := fun g2 => by
    have := congrArg (fun z => State.setTop z g2) e2
    simpa only [State.setTop_setTop] using this
  have hH0 : (T.setVm vm₁).heap = T.heap := rfl
  rw [hH0] at hsz hold hcell ha hrows
  have hlt0 : T.heap.size ≤ T2.heap.size := by omega
  have harr : ({ cls := cA, slots := a, vm := .none } : Cell) = arrV cA 7 (fun j => .ref (T.heap.size + 1 + j)) := by
    unfold arrV
    congr 1
    apply Array.ext
    · simp [hasz]
    · intro k hk1 hk2
      have hk7 : k < 7 := by omega
      have h9 := ha k hk7
      rw [Array.getElem?_eq_getElem hk1] at h9
      rw [Option.some.inj h9]
      simp
  have hP1 : va_P D cl (ws ++ gridW T.heap.size cA comp) T2.heap := by
    refine va_app (hP.kept (fun k q hq => hold q.1 ((hP k q hq).lt))) (fun j q hj => ?_)
    have hj8 : j < 8 := by
      have := (List.getElem?_eq_some_iff.mp hj).1
      simpa [gridW] using this
    have hrow : ∀ k, k < 7 → T2.heap[T.heap.size + 1 + k]? = some (vp_cell comp (16, .inl (fun _ => 0))) := fun k hk => by
      rw [hrows k hk, row16]
      rfl
    have hc : j = 0 ∨ j = 1 ∨ j = 2 ∨ j = 3 ∨ j = 4 ∨ j = 5 ∨ j = 6 ∨ j = 7 := by omega
    rcases hc with rfl | rfl | rfl | rfl | rfl | rfl | rfl | rfl
    · cases hj
      show T2.heap[T.heap.size]? = some (vp_cell cA _)
      rw [hcell, harr]
      rfl
    · cases hj; exact hrow 0 (by decide)
    · cases hj; exact hrow 1 (by decide)
    · cases hj; exact hrow 2 (by decide)
    · cases hj; exact hrow 3 (by decide)
    · cases hj; exact hrow 4 (by decide)
    · cases hj; exact hrow 5 (by decide)
    · cases hj; exact hrow 6 (by decide)
  have hD1 : va_D A (ws ++ gridW T.heap.size cA comp) := by
    refine va_Dapp (z := T.heap.size) hD (fun k q hq => (hP k q hq).lt) (fun j q hj => ?_) (fun q hq => hA q (Nat.le_trans hS.1 hq))
    have hj8 : j < 8 := by
      have := (List.getElem?_eq_some_iff.mp hj).1
      simpa [gridW] using this
    have hc : j = 0 ∨ j = 1 ∨ j = 2 ∨ j = 3 ∨ j = 4 ∨ j = 5 ∨ j = 6 ∨ j = 7 := by omega
    rcases hc with rfl | rfl | rfl | rfl | rfl | rfl | rfl | rfl <;> (cases hj; rfl)
  have hS1 : va_S A H0 T2.heap locs := ⟨Nat.le_trans hS.1 hlt0, fun q a1 a2 => (hold q (Nat.lt_of_lt_of_le a1 hS.1)).trans (hS.2.1 q a1 a2), hS.2.2⟩
  obtain ⟨t, a1, b1⟩ := kk T.heap.size T2.heap hP1 hD1 hS1 T2 rfl X'
  refine ⟨t, hst t ?_, b1⟩
  rw [eT]
  exact a1
end MH
