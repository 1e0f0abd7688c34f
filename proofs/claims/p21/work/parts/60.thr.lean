section OT
variable {s0 s : State} {args args' : Array Value} {O f d : String}
theorem ls_old (hO : Old s0 s) (h : (Cond.laysStatic O f d).before args s0 = true) : (Cond.laysStatic O f d).before args' s = true := by
  obtain ⟨c, k, i, fd, a, cell, hc, hi, hst, ha, hcell, hs, hcls, hlt, hty⟩ := Cond.laysStatic_spec h
  obtain ⟨k', hi', hek⟩ := State.fieldFound?_setVm hO.1.alike hi
  exact Cond.laysStatic_of (s := s) (by rw [hO.1.alike.findClass]; exact hc) hi' hst (by rw [hek]; exact ha) (by rw [hO.2.2 a (Array.getElem?_eq_some_iff.mp hcell).1]; exact hcell) hs hcls hlt (by rw [hek]; exact hty)
theorem ir_old (hO : Old s0 s) (hl : (Cond.laysStatic O f d).before args s0 = true) (h : (Cond.isRef (.static O f d)).before args s0 = true) : (Cond.isRef (.static O f d)).before args' s = true := by
  obtain ⟨c, k, i, fd, a, cell, hc, hi, hst, ha, hcell, hs, hcls, hlt, hty⟩ := Cond.laysStatic_spec hl
  obtain ⟨k', hi', hek⟩ := State.fieldFound?_setVm hO.1.alike hi
  have hi2 : s.fieldFound? O f d = some (c, k', i, fd) := hi'
  have ha2 : k'.statics = some a := by rw [hek]; exact ha
  have hcell2 : s.heap[a]? = some cell := by rw [hO.2.2 a (Array.getElem?_eq_some_iff.mp hcell).1]; exact hcell
  have e0 : (Term.static O f d).eval args s0 none [] s0 = cell.slots[fd.slot]? := by simp [Term.eval, State.fieldNamed?, hi, hst, ha, hcell, hs]
  have e1 : (Term.static O f d).eval args' s none [] s = cell.slots[fd.slot]? := by simp [Term.eval, State.fieldNamed?, hi2, hst, ha2, hcell2, hs]
  simp only [Cond.before, Cond.holds, Cond.value, e0] at h
  simp only [Cond.before, Cond.holds, Cond.value, e1]
  exact h
/-- what the start says of Throwable's statics, and of X's chain of constructors -/
def ThrF (X : String) (s0 : State) : Prop := va_Nw (.declares ⟨"java/lang/RuntimeException", "<init>", "()V"⟩) s0 ∧ va_Nw (.declares ⟨"java/lang/Exception", "<init>", "()V"⟩) s0 ∧ va_Nw (.declares ⟨"java/lang/Throwable", "<init>", "()V"⟩) s0 ∧ va_Nw (.castable X X) s0 ∧
  (Cond.laysStatic "java/lang/Throwable" "UNASSIGNED_STACK" "[Ljava/lang/StackTraceElement;").before #[] s0 = true ∧ (Cond.laysStatic "java/lang/Throwable" "SUPPRESSED_SENTINEL" "Ljava/util/List;").before #[] s0 = true ∧
  (Cond.isRef (.static "java/lang/Throwable" "UNASSIGNED_STACK" "[Ljava/lang/StackTraceElement;")).before #[] s0 = true ∧ (Cond.isRef (.static "java/lang/Throwable" "SUPPRESSED_SENTINEL" "Ljava/util/List;")).before #[] s0 = true
end OT
theorem ob_ns {s : State} {D : va_G} {cl : List vw_C} {ws : va_W} {H : Heap} {locs : List Loc} (hP : va_P D cl ws s.heap) (hS : va_S (va_A ws s.heap.size) s.heap H locs) : ∀ x ∈ locs, ∀ cell, s.heap[x.base]? = some cell → cell.vm.isStatics = false := by
  intro x hx cell hc
  rcases hS.2.2 x hx with ⟨k, e, hk⟩ | hge
  · have h := hP k (x.base, e) hk
    cases e with
    | inl a =>
      have h1 : s.heap[x.base]? = some (vp_cell a.1 a.2) := h
      rw [hc] at h1
      cases h1
      obtain ⟨c0, n0, f0⟩ := a
      rcases f0 with f0 | f0 | f0 | f0 | f0 <;> rfl
    | inr o =>
      obtain ⟨r, -, c2, h2, -, h4, -⟩ := h
      rw [hc] at h2
      cases h2
      rw [h4]
      rfl
  · exact absurd (Array.getElem?_eq_some_iff.mp hc).1 (Nat.not_lt.mpr hge)
theorem tr_off {l : Launch} {e : Env} (h : l.admits e) (hl : l.stackTraces = false) : e.platform.stackTraces = false := by
  rw [h.platform]
  exact hl
theorem Old.rf (s : State) : Old s s := ⟨State.WarmedH.refl s, Nat.le_refl _, fun _ _ => rfl⟩
theorem emp_tab {c : Code} (h : c.exceptionTable.isEmpty = true) : c.exceptionTable.toList = [] := by
  have h1 : c.exceptionTable = #[] := by simpa using h
  rw [h1]
section RB
variable {p : Program} {l : Launch} {e : Env} {R : Room} {s : State} {m : MethodId} {args : Array Value} {below : List Frame} {meth : Method} {c : Code} {T : State} {locs : List Loc}
theorem rb_size (X : Stand p l e R s m args below meth c T locs 0 0) : T.heap.size = s.heap.size := Nat.le_antisymm X.heapSize X.same.2.1
theorem rb_drop (X : Stand p l e R s m args below meth c T locs 0 0) : T.heap.toList.drop s.heap.size = [] := List.drop_eq_nil_of_le (by rw [Array.length_toList]; exact X.heapSize)
theorem rb_slots (X : Stand p l e R s m args below meth c T locs 0 0) : T.slotsUsed = s.slotsUsed := by
  have h : T.slotsUsed = s.slotsUsed + ((T.heap.toList.drop s.heap.size).map (·.slots.size)).sum := X.same.2.2.2.1
  rw [rb_drop X] at h
  simpa using h
/-- the same standing, seen from a state that has today's heap -/
theorem rb_stand (X : Stand p l e R s m args below meth c T locs 0 0) : Stand p l e R { s with heap := T.heap } m args below meth c T [] 0 0 := by
  refine ⟨X.admits, X.cas, X.clock, X.frames, ?_, X.hears, X.method, X.code, X.here, X.tail, X.warmed, X.limits, X.bytes, ?_⟩
  · have hb := X.book
    have h := X.room
    unfold State.slotsTrue at hb
    rw [rb_slots X] at hb
    simp only [State.hasRoom, Bool.and_eq_true] at h ⊢
    refine ⟨⟨⟨h.1.1.1, ?_⟩, h.1.2⟩, hb⟩
    have h2 := h.1.1.2
    show decide (T.heap.size + R.cells ≤ _) = true
    rw [rb_size X]
    exact h2
  · have h1 : T.setVm s.vm = { s.setFrames (T.setVm s.vm).frames with heap := (T.setVm s.vm).heap, slotsUsed := (T.setVm s.vm).slotsUsed } := X.same.1
    refine ⟨?_, Nat.le_refl _, Nat.le_refl _, ?_, ?_, ?_⟩
    · exact h1
    · show T.slotsUsed = s.slotsUsed + ((T.heap.toList.drop T.heap.size).map (·.slots.size)).sum
      rw [rb_slots X, List.drop_eq_nil_of_le (by rw [Array.length_toList]; exact Nat.le_refl _)]
      rfl
    · show ((T.heap.toList.drop T.heap.size).map (·.slots.size)).sum ≤ 0
      rw [List.drop_eq_nil_of_le (by rw [Array.length_toList]; exact Nat.le_refl _)]
      exact Nat.le_refl _
    · intro a c0 hc
      exact ⟨c0, hc, rfl, rfl, fun _ _ => rfl⟩
theorem rb_keep (U : State) {mc ms : Nat} (h : ({ s with heap := T.heap } : State).sameButNew U [] mc ms) : ∀ z, z < T.heap.size → U.heap[z]? = T.heap[z]? := by
  intro z hz
  obtain ⟨c', h1, h2, h3, h4⟩ := h.2.2.2.2.2 z T.heap[z] (Array.getElem?_eq_getElem hz)
  rw [Array.getElem?_eq_getElem hz, h1, h2]
  have : c'.slots = T.heap[z].slots := Array.ext_getElem? fun i => h4 i (by simp)
  rw [this]
theorem rb_same (X : Stand p l e R s m args below meth c T locs 0 0) (U : State) {mc ms : Nat} (h : ({ s with heap := T.heap } : State).sameButNew U [] mc ms) : s.sameButNew U locs mc ms := by
  have hz := rb_size X
  refine ⟨?_, ?_, ?_, ?_, ?_, ?_⟩
  · exact h.1
  · have := h.2.1
    show s.heap.size ≤ _
    rw [← hz]; exact this
  · have := h.2.2.1
    rw [← hz]; exact this
  · have := h.2.2.2.1
    rw [← hz]; exact this
  · have := h.2.2.2.2.1
    rw [← hz]; exact this
  · intro a c0 hc
    obtain ⟨c', h1, h2, h3, h4⟩ := X.same.2.2.2.2.2 a c0 hc
    have hlt : a < T.heap.size := (Array.getElem?_eq_some_iff.mp h1).1
    refine ⟨c', ?_, h2, h3, h4⟩
    rw [rb_keep U h a hlt]
    exact h1
end RB
/-- the end of a throw: the thrown cell (by code 1 of the first class, by 2 of the second), and the world as it is then -/
def qT (D : va_G) (c1 c2 : ClassId) (w : va_W) (r : Int32) (q : Addr) (Hh : Heap) : Prop := (∃ ce : Cell, Hh[q]? = some ce ∧ ce.cls = (if r = 2 then c2 else c1) ∧ ce.vm = .none) ∧ va_P D vwCl w Hh
theorem vP_grow {D : va_G} {w : va_W} {H H' : Heap} (h : va_P D vwCl w H) (hk : ∀ z, z < H.size → H'[z]? = H[z]?) : va_P D vwCl w H' := h.kept (fun k q hq => hk q.1 (h k q hq).lt)
section WTH
variable {p : Program} {l : Launch} {e : Env} {R : Room} {s : State} {m : MethodId} {args : Array Value} {below : List Frame} {meth : Method} {c : Code} {H : Heap} {locs : List Loc}
theorem W_th {A : Nat → Prop} {D : va_G} {w : va_W} {r : Int32} {c1 c2 cX : ClassId} {g : JFrame} (hS : va_S A s.heap H locs) (hP : va_P D vwCl w H) (hr : cX = (if r = 2 then c2 else c1))
    (kk : ∀ s2 : State, s2.heap = H → s2.vm = s.vm → W p l e R s2 m args below meth c H [] 0 0 (MQT below (fun _ q t => ∃ ce : Cell, t.heap[q]? = some ce ∧ ce.cls = cX ∧ ce.vm = .none) s2 1 6 (fun _ => False)) g) :
    W p l e R s m args below meth c H locs 0 0 (MQT below (fun _ q t => qT D c1 c2 w r q t.heap) s 1 6 A) g := by
  intro T hT X
  subst hT
  obtain ⟨t, st, q, hrun, hend, hq, hWe, L, hsame, hL⟩ := kk { s with heap := T.heap } rfl rfl T rfl (rb_stand X)
  obtain rfl : L = [] := List.eq_nil_iff_forall_not_mem.mpr (fun x hx => hL x hx)
  have hk := rb_keep (s := s) (T := T) _ hsame
  refine ⟨t, st, q, hrun, hend, ⟨?_, vP_grow hP hk⟩, hWe, locs, rb_same X _ hsame, hS.2.2⟩
  rw [← hr]
  exact hq
end WTH
section TH2
variable {p : Program} {l : Launch} {e : Env} {R : Room} {s : State} {m : MethodId} {args : Array Value} {below : List Frame} {meth : Method} {c : Code} {H : Heap} {T : State} {locs : List Loc} {cells slots : Nat} {Q : State → Prop}
theorem in_VT2 {R' : Room} {own C : String} {index hpc : Nat} {y : MethodName} {bytes cc : ByteArray} {maxL nL mc ms : Nat} {ret : Option FieldType} {Qt : Addr → Heap → Prop} {free : Addr → Prop} {b : Addr} {As rest : List Value} {g : JFrame}
    (hx : p.tables.exec = Jvm.exec) (hb : c.code = cc) (hml : c.maxLocals = nL) (hown : s.vm.findClass own = some m.cls)
    (hlink : (Cond.methodLink own index y).before args s = true) (hinst : (Cond.instanceMethod y).before args s = true) (hsel : (Cond.selects C y y).before args s = true) (hcode : (Cond.code y bytes maxL ret).before args s = true)
    (hy : y.cls ≠ "java/lang/invoke/MethodHandle" ∧ y.cls ≠ "java/lang/invoke/VarHandle") (hpl : plainName y.cls = true) (hlen : ∀ sig, parseMethodDescriptor y.desc = some sig → As.length = sig.parameters.length)
    (hrecv : ∃ cellB : Cell, H[b]? = some cellB ∧ cellB.vm.isStatics = false ∧ s.vm.findClass C = some cellB.cls)
    (hg : g.method = m) (hsize : g.locals.size = nL) (hstack : g.stack = As.reverse ++ .ref b :: rest) (hW : 2 * g.monitorRoom + (rest.map fun v => v.category).sum ≤ 8) (hdg : decode cc g.pc = .ok (.invokevirtual index, 3))
    (hf : cells + mc ≤ R.cells ∧ slots + ms ≤ R.slots) (hR : R'.frames + 1 ≤ R.frames ∧ 8 + (maxL + 11) + R'.locals ≤ R.locals ∧ R'.cells = mc ∧ R'.slots = ms)
    (body : ∀ (s' : State) (mk : MethodId) (methk : Method) (ck : Code) (bel : List Frame), s'.heap = H → s.WarmedH s'.vm → s'.vm.findClass y.cls = some mk.cls → ck.code = bytes → ck.maxLocals = maxL → ck.exceptionTable.isEmpty = true → methk.locks = false →
      W p l e R' s' mk (Value.ref b :: As).toArray bel methk ck H [] 0 0 (MQT bel (fun _ q t => Qt q t.heap) s' mc ms free) (entryFrame mk (Value.ref b :: As).toArray maxL))
    (hcatch : ∀ (T : State) (q : Addr) (l1 : List Loc) (c1 s1 : Nat), Stand p l e R s m args below meth c T l1 c1 s1 → Qt q T.heap → ∃ vm₂, s.WarmedH vm₂ ∧ ∀ target, Steps p.tables e below ((T.setVm vm₂).setTop { g with pc := hpc, stack := [.ref q] }) target → Steps p.tables e below ((T.setTop { g with stack := rest }).pushFrame (.throwing q)) target)
    (kk : ∀ (q : Addr) (H1 : Heap) (L : List Loc), (∀ x ∈ L, free x.base) → H.size ≤ H1.size → (∀ z, z < H.size → (∀ x ∈ L, x.base ≠ z) → H1[z]? = H[z]?) → Qt q H1 → W p l e R s m args below meth c H1 (locs ++ L) (cells + mc) (slots + ms) Q { g with pc := hpc, stack := [.ref q] }) :
    W p l e R s m args below meth c H locs cells slots Q g := by
  intro T hT X
  obtain ⟨mk, methM, hnamed, hmethM, hstM, habM⟩ := Cond.instanceMethod_spec hinst
  obtain ⟨methM', cM, hmethM', hcM, hbM, hlM, hrM, hlkM, heM, hsigM⟩ := Cond.code_spec hnamed hcode
  subst hlM
  cases hmethM.symm.trans hmethM'
  obtain ⟨c2, r2, m2, q1, q2, q3, q4, kP, hkP, hkPi⟩ := Cond.selects_spec hsel
  obtain ⟨cellB, hcB, hoB, hclB⟩ := hrecv
  cases hclB.symm.trans q1
  cases (State.methodFound?_of_named hnamed hy).symm.trans q2
  cases hnamed.symm.trans q3
  have hselP : selectMethod e.platform s.vm cellB.cls mk = .method mk := by rw [Launch.admits_selectMethod X.admits]; exact q4
  obtain ⟨vm₁, X₁, hstep₁⟩ := X.invokevirtual hx hown hlink hnamed hmethM hstM hkP hkPi hy (a := b) (cell := cellB) (by rw [hT]; exact hcB)
    (fun z h => by rw [h] at hoB; cases hoB) hselP hmethM habM hkP hkPi (g := g) hg (argsL := As) (rest := rest) (hlen _ hsigM) hstack (by rw [hb]; exact hdg)
  have hal : s.vm.Alike vm₁ := X₁.warmed.alike
  have hmk : (T.setVm vm₁).vm.method? mk = some methM := by
    show vm₁.method? mk = _
    rw [hal.method?]
    exact hmethM
  have hpk : (T.setVm vm₁).plainMethod mk := State.plainMethod.of_named (s := T.setVm vm₁) (plainFor_of_name hpl) (X₁.named hnamed) hmk
  have hsz : ({ g with stack := rest } : JFrame).locals.size = c.maxLocals := hsize.trans hml.symm
  obtain ⟨Y, hin⟩ := X₁.into (g := { g with stack := rest }) hg hsz (ig := .invokevirtual index) (len := 3) (by rw [hb]; exact hdg) (Value.ref b :: As).toArray (R' := R') hmk hcM hlkM hpk hR.1 (Nat.le_trans (Nat.add_le_add_right (Nat.add_le_add_right hW _) _) hR.2.1) (by rw [hR.2.2.1]; exact hf.1) (by rw [hR.2.2.2]; exact hf.2)
  have hfc : ((T.setVm vm₁).calling { g with stack := rest } mk (Value.ref b :: As).toArray).vm.findClass y.cls = some mk.cls := by
    show vm₁.findClass _ = _
    rw [hal.findClass]
    exact findClass_of_methodNamed hnamed
  obtain ⟨t, st, q, hrun, hend, hq, hWe, L, hsame, hL⟩ := body ((T.setVm vm₁).calling { g with stack := rest } mk (Value.ref b :: As).toArray) mk methM cM (.java { g with stack := rest } :: below) hT X₁.warmed hfc hbM rfl heM hlkM (((T.setVm vm₁).setTop { g with stack := rest }).pushFrame (.java (entryFrame mk (Value.ref b :: As).toArray cM.maxLocals))) hT Y
  obtain ⟨T', X', hW', hB', ht⟩ := X₁.outOfThrown (g := { g with stack := rest }) hg hend hWe hsame
  have hTh : T'.heap = t.heap := by rw [ht]; exact (Stand.throwing_heap _ _ _).symm
  obtain ⟨vm₂, hw2, hst2⟩ := hcatch T' q _ _ _ X' (by rw [hTh]; exact hq)
  have X'' := X'.noted hw2
  have hkeep : ∀ z, z < H.size → (∀ x ∈ L, x.base ≠ z) → T'.heap[z]? = H[z]? := by
    intro z hz hoff
    have hTz : (T.setVm vm₁).heap[z]? = some H[z] := by
      show T.heap[z]? = _
      rw [hT]
      exact Array.getElem?_eq_getElem hz
    have := State.sameButNew.kept_off hB' (a := z) (c := H[z]) (fun i hmem => hoff _ hmem rfl) hTz
    rw [Array.getElem?_eq_getElem hz]
    exact this
  have hsz2 : H.size ≤ T'.heap.size := by
    have := hB'.2.1
    rw [← hT]
    exact this
  obtain ⟨t2, a1, b1⟩ := kk q T'.heap L hL hsz2 hkeep (by rw [hTh]; exact hq) (T'.setVm vm₂) rfl X''
  refine ⟨t2, hstep₁ _ fun acts => ?_, b1⟩
  rw [hin acts]
  exact (Steps.weaken (mid := [.java { g with stack := rest }]) st).trans (ht ▸ hst2 _ a1)
end TH2
section TH3
variable {p : Program} {l : Launch} {e : Env} {R : Room} {s : State} {m : MethodId} {args : Array Value} {below : List Frame} {meth : Method} {c : Code} {H : Heap} {T : State} {locs : List Loc} {cells slots : Nat} {Q : State → Prop}
/-- what is thrown passes the table's first entry, and is caught by the second -/
theorem ct_cold2 (X : Stand p l e R s m args below meth c T locs cells slots) {g : JFrame} (hg : g.method = m) {a : Addr} {x y : ExceptionTableEntry} {rest : List ExceptionTableEntry} (hsplit : c.exceptionTable.toList = x :: y :: rest) (hx : covers x g.pc = true) (hy : covers y g.pc = true) (h0 : x.catchType ≠ 0) (h1 : y.catchType ≠ 0) {own name1 name : String} (hown : s.vm.findClass own = some m.cls) (hlink1 : (Cond.classLink own x.catchType name1).before args s = true) (hlink : (Cond.classLink own y.catchType name).before args s = true) {cX : ClassId} (hfX : s.vm.findClass name = some cX) (hnc : va_Nc name name1 s) {ce : Cell} (hcell : T.heap[a]? = some ce) (hce : ce.cls = cX) (hvm : ce.vm = .none) :
    ∃ vm₂, s.WarmedH vm₂ ∧ ∀ target, Steps p.tables e below ((T.setVm vm₂).setTop { g with pc := y.handlerPc, stack := [.ref a] }) target → Steps p.tables e below ((T.setTop g).pushFrame (.throwing a)) target := by
  subst hg
  have hpl : e.platform.magicAccessors = ({} : Platform).magicAccessors := by rw [X.admits.platform]
  obtain ⟨cY, hfcY, hclY⟩ := Cond.classLink_spec hown hlink1 e.platform hpl
  obtain ⟨c0, hfc0, hcl⟩ := Cond.classLink_spec hown hlink e.platform hpl
  cases hfX.symm.trans hfc0
  obtain ⟨hg₁, hwarm₁, hready₁⟩ := State.classEntry (e := e) X.warmed hclY
  generalize T.vm.noted g.method.cls x.catchType (.cls cY) = vm₁ at hg₁ hwarm₁ hready₁
  obtain ⟨hg₂, hwarm₂, hready₂⟩ := State.classEntry (e := e) hwarm₁ hcl
  generalize vm₁.noted g.method.cls y.catchType (.cls cX) = vm₂ at hg₂ hwarm₂ hready₂
  refine ⟨vm₂, hwarm₂, fun target hrest => ?_⟩
  have hm : ((T.setTop g).pushFrame (.throwing a)).vm.method? g.method = some meth := by rw [Stand.throwing_vm]; exact X.method'
  have hvm0 : ((T.setTop g).pushFrame (.throwing a)).vm = T.vm := Stand.throwing_vm T g a
  have hh0 : ((T.setTop g).pushFrame (.throwing a)).heap = T.heap := Stand.throwing_heap T g a
  have hal : T.vm.Alike vm₁ := X.warmed.alike.symm.trans hwarm₁.alike
  have hal2 : T.vm.Alike vm₂ := X.warmed.alike.symm.trans hwarm₂.alike
  have hal3 : vm₁.Alike vm₂ := hwarm₁.alike.symm.trans hwarm₂.alike
  obtain ⟨kX, hkX⟩ := Vm.classAt_of_findClass (vm := vm₁) (name := name) (c := cX) (by rw [hwarm₁.alike.findClass]; exact hfX)
  obtain ⟨kX2, hkX2⟩ := Vm.classAt_of_findClass (vm := vm₂) (name := name) (c := cX) (by rw [hwarm₂.alike.findClass]; exact hfX)
  obtain ⟨kY, hkY⟩ := Vm.classAt_of_findClass (vm := vm₁) (name := name1) (c := cY) (by rw [hwarm₁.alike.findClass]; exact hfcY)
  have hss : ((((T.setTop g).pushFrame (.throwing a)).setVm vm₁).setVm vm₂) = ((T.setTop g).pushFrame (.throwing a)).setVm vm₂ := rfl
  obtain ⟨nX, nY, n1, n2, n3⟩ := hnc
  cases hfX.symm.trans n1
  cases hfcY.symm.trans n2
  have hno : vm₁.assignable cX cY = false := by rw [hwarm₁.alike.assignable]; exact n3
  have FV : ∀ (Q : Handler → Pre) (E : CtlPost) (d : Bool) (acts : List Action), wp (findHandler g a) Q E e d acts ((T.setTop g).pushFrame (.throwing a)) ↔ Q (.found y.handlerPc) d acts (((T.setTop g).pushFrame (.throwing a)).setVm vm₂) := by
    intro Q E d acts
    rw [W.findHandler_eq hm X.code, hsplit]
    have hx' := hx
    have hy' := hy
    simp only [covers] at hx' hy'
    rw [← hvm0] at hg₁
    obtain ⟨ha, ht⟩ := hg₁.op (op := VmOp.resolveClass g.method.cls x.catchType) rfl
    obtain ⟨ha2, ht2⟩ := hg₂.op (op := VmOp.resolveClass g.method.cls y.catchType) rfl
    have hsz : vm₁.classes.size ≤ ((T.setTop g).pushFrame (.throwing a)).vm.classes.size := by rw [hvm0]; exact hal.size_le
    have hsz2 : vm₂.classes.size ≤ vm₁.classes.size := hal3.size_le
    have hcell' : ((T.setTop g).pushFrame (.throwing a)).heap[a]? = some ce := by rw [hh0]; exact hcell
    have hself : vm₂.assignable cX cX = true := by
      show vm₂.assignableAux (255 + 1) cX cX = true
      rw [Vm.assignableAux]
      simp
    simp [findHandler.go, hx', hy', h0, h1, ha, ht, ha2, ht2, hsz, hsz2, hcell', hvm, hce, hkX, hkX2, hkY, hss, hno, hself, VmOp.dirties, VmOp.acts]
  have h : At T g.method c below := X.here
  obtain ⟨hgo, hw⟩ := h.throwing a
  refine Steps.head hgo hw ?_
  rw [stepThread_throwing (frames_entered h.top _)]
  have step : (stepThrowing e ((T.setTop g).pushFrame (.throwing a)) a (.java g :: T.frames.tail)).Is ((((T.setTop g).pushFrame (.throwing a)).setVm vm₂).setFrames (.java { g with pc := y.handlerPc, stack := [.ref a] } :: T.frames.tail)) [] := by
    simp only [stepThrowing, searchFrame, vmDo]
    generalize hr : Sem.go _ e false [] _ = res
    obtain ⟨as, rfl, ha⟩ := Sem.eq_ok_of hr (a := Handler.found y.handlerPc) (s' := ((T.setTop g).pushFrame (.throwing a)).setVm vm₂) (acts' := []) (by simp [FV])
    exact ⟨rfl, ha⟩
  rw [step.1]
  obtain ⟨g₀, hgg⟩ := Option.isSome_iff_exists.mp h.top
  obtain ⟨r, hr⟩ := State.topJava?_eq_some.mp hgg
  have hr' : (T.setVm vm₂).frames = .java g₀ :: r := hr
  rw [State.setTop_of_frames _ hr'] at hrest
  rw [State.pushFrame, State.setTop_of_frames _ hr, hr]
  show Steps p.tables e below ((((T.setVm vm₂).setFrames (.java g :: r)).setFrames (.throwing a :: (T.setFrames (.java g :: r)).frames)).setFrames (.java { g with pc := y.handlerPc, stack := [.ref a] } :: r)) target
  rw [State.setFrames_setFrames, State.setFrames_setFrames]
  exact hrest
end TH3
theorem vD_f {A : Nat → Prop} {w1 w2 : va_W} (e : w2.map (fun q => q.1) = w1.map (fun q => q.1)) (h : va_D A w1) : va_D A w2 := by
  have key : ∀ (i : Nat) (p : Nat × va_E), w2[i]? = some p → ∃ p', w1[i]? = some p' ∧ p'.1 = p.1 := by
    intro i p hp
    have h1 : (w2.map (fun q => q.1))[i]? = some p.1 := by rw [List.getElem?_map, hp]; rfl
    rw [e, List.getElem?_map] at h1
    cases hq : w1[i]? with
    | none => rw [hq] at h1; cases h1
    | some p' => rw [hq] at h1; exact ⟨p', rfl, Option.some.inj h1⟩
  refine ⟨fun i j p q hi hj hpq => ?_, fun k q hk => ?_⟩
  · obtain ⟨p', h1, e1⟩ := key i p hi
    obtain ⟨q', h2, e2⟩ := key j q hj
    exact h.1 i j p' q' h1 h2 (by rw [e1, e2, hpq])
  · obtain ⟨q', h1, e1⟩ := key k q hk
    rw [← e1]
    exact h.2 k q' h1
