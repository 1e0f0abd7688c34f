-- rows of mine that the kit lacks: an array of a class that is known; a method with handlers walked at its call; a call that throws and is caught
section NA
variable {p : Program} {l : Launch} {e : Env} {R : Room} {s : State} {m : MethodId} {args : Array Value} {below : List Frame} {meth : Method} {c : Code} {H : Heap} {locs : List Loc} {cells slots : Nat} {Q : State → Prop}
variable {cc : ByteArray} {pc : Nat} {ls : Array Slot} {rest : List Value} {D : va_G} {cl : List vw_C} {A : Nat → Prop} {tys : List (ClassId × FieldType)} {ws : va_W} {H0 : Heap}
theorem nw_a (hexec : p.tables.exec = Jvm.exec) (hb : c.code = cc) {atype : ArrayType} (harr : (Cond.arrayClass (newarray.typeOf atype)).before args s = true) {ty : FieldType} (hty : newarray.typeOf atype = ty) (hK : va_K D cl tys s) {t0 : Nat} {cA : ClassId} (ht : tys[t0]? = some (cA, ty)) (hP : va_P D cl ws H) (hD : va_D A ws) (hS : va_S A H0 H locs) (hA : ∀ q, H0.size ≤ q → A q)
    {n : Int32} {N' : Nat} {a0 : vp_A} (ha : ∀ cA : ClassId, vp_cell cA a0 = arrV cA N' (fun _ => defaultValue ty)) (hn : ¬ n < 0) (hN : n.toNatClampNeg = N') (hbytes : N' * componentBytes ty ≤ 536870912) (hcells : cells + 1 ≤ R.cells) (hslots : slots + N' ≤ R.slots) (hdg : decode cc pc = .ok (.newarray atype, 2))
    (kk : ∀ (q : Nat) (H1 : Heap), va_P D cl (ws ++ [(q, .inl (cA, a0))]) H1 → va_D A (ws ++ [(q, .inl (cA, a0))]) → va_S A H0 H1 locs → W p l e R s m args below meth c H1 locs (cells + 1) (slots + N') Q (F0 m (pc + 2) ls (.ref q :: rest))) : W p l e R s m args below meth c H locs cells slots Q (F0 m pc ls (.int n :: rest)) := by
  refine va_newa hexec hb harr hty hK hP hD hS hA ha hn hN hbytes hcells hslots hdg (fun q cB H1 hK' hP' hD' hS' => ?_)
  have e1 : va_RA s cB ty := (hK'.2 tys.length (cB, ty) (by simp)).2
  have e2 : va_RA s cA ty := (hK.2 t0 (cA, ty) ht).2
  have e3 : cB = cA := by
    subst hty
    cases atype <;> exact Option.some.inj (Eq.trans (Eq.symm e1) e2)
  subst e3
  exact kk q H1 hP' hD' hS'
end NA
section IN
variable {p : Program} {l : Launch} {e : Env} {R : Room} {s : State} {m : MethodId} {args : Array Value} {below : List Frame} {meth : Method} {c : Code} {H : Heap} {locs : List Loc} {cells slots : Nat} {Q : State → Prop}
/-- a static method with handlers: its body is walked at the call -/
theorem in_S {R' : Room} {own : String} {index : Nat} {y : MethodName} {bytes cc : ByteArray} {maxL nL mc ms : Nat} {ret : Option FieldType} {hs : List (Nat × Nat × Nat × Nat)} {Qc : Array Value → State → Outcome → State → Prop} {free : Addr → Prop} {As rest : List Value} {g : JFrame}
    (hx : p.tables.exec = Jvm.exec) (hb : c.code = cc) (hml : c.maxLocals = nL) (hown : s.vm.findClass own = some m.cls)
    (hlink : (Cond.methodLink own index y).before args s = true) (hstat : (Cond.static y).before args s = true) (hini : (Cond.initialized y.cls).before args s = true) (hcode : (Cond.codeWith y bytes maxL ret hs).before args s = true)
    (hy : y.cls ≠ "java/lang/invoke/MethodHandle" ∧ y.cls ≠ "java/lang/invoke/VarHandle") (hpl : plainName y.cls = true) (hlen : ∀ sig, parseMethodDescriptor y.desc = some sig → As.length = sig.parameters.length)
    (hg : g.method = m) (hsize : g.locals.size = nL) (hstack : g.stack = As.reverse ++ rest) (hW : 2 * g.monitorRoom + (rest.map fun v => v.category).sum ≤ 8) (hdg : decode cc g.pc = .ok (.invokestatic index, 3))
    (hf : cells + mc ≤ R.cells ∧ slots + ms ≤ R.slots) (hR : R'.frames + 1 ≤ R.frames ∧ 8 + (maxL + 11) + R'.locals ≤ R.locals ∧ R'.cells = mc ∧ R'.slots = ms)
    (body : ∀ (s' : State) (mk : MethodId) (methk : Method) (ck : Code) (bel : List Frame), s'.heap = H → s.WarmedH s'.vm → s'.vm.findClass y.cls = some mk.cls → ck.code = bytes → ck.maxLocals = maxL → ck.exceptionTable.toList = tableOf hs → methk.sig.returnType = ret → methk.locks = false → methk.code = some ck → s'.vm.method? mk = some methk →
      W p l e R' s' mk As.toArray bel methk ck H [] 0 0 (MQ bel Qc As.toArray s' mc ms free) (entryFrame mk As.toArray maxL)) :
    va_Run p l e R s m args below meth c H locs cells slots mc ms g rest (Qc As.toArray) free := by
  intro T hT X
  obtain ⟨mk, methM, cM, hnamed, hmethM, hcM, hbM, hlM, htM, hrM, hlkM, hsigM⟩ := Cond.codeWith_spec hcode
  subst hlM
  have htM' : cM.exceptionTable.toList = tableOf hs := by rw [← htM, table_eq]
  have hstatic : methM.isStatic = true := Cond.static_spec hnamed hmethM hstat
  obtain ⟨kP, hkP, -⟩ := className_of_methodNamed hnamed
  have hinitP : kP.init = .initialized := Cond.initialized_spec (findClass_of_methodNamed hnamed) hkP hini
  obtain ⟨vm₁, X₁, hstep₁⟩ := X.invokestatic hx hown hlink hnamed hmethM hstatic hkP hinitP hy (g := g) hg (argsL := As) (rest := rest) (hlen _ hsigM) hstack (by rw [hb]; exact hdg)
  have hal : s.vm.Alike vm₁ := X₁.warmed.alike
  have hmk : (T.setVm vm₁).vm.method? mk = some methM := by
    show vm₁.method? mk = _
    rw [hal.method?]
    exact hmethM
  have hpk : (T.setVm vm₁).plainMethod mk := State.plainMethod.of_named (s := T.setVm vm₁) (plainFor_of_name hpl) (X₁.named hnamed) hmk
  have hsz : ({ g with stack := rest } : JFrame).locals.size = c.maxLocals := hsize.trans hml.symm
  obtain ⟨Y, hin⟩ := X₁.into (g := { g with stack := rest }) hg hsz (ig := .invokestatic index) (len := 3) (by rw [hb]; exact hdg) As.toArray (R' := R') hmk hcM hlkM hpk hR.1 (Nat.le_trans (Nat.add_le_add_right (Nat.add_le_add_right hW _) _) hR.2.1) (by rw [hR.2.2.1]; exact hf.1) (by rw [hR.2.2.2]; exact hf.2)
  have hfc : ((T.setVm vm₁).calling { g with stack := rest } mk As.toArray).vm.findClass y.cls = some mk.cls := by
    show vm₁.findClass _ = _
    rw [hal.findClass]
    exact findClass_of_methodNamed hnamed
  obtain ⟨t, st, o, hrun, hend, hq, L, hF, hL⟩ := body ((T.setVm vm₁).calling { g with stack := rest } mk As.toArray) mk methM cM (.java { g with stack := rest } :: below) hT X₁.warmed hfc hbM rfl htM' hrM hlkM hcM hmk (((T.setVm vm₁).setTop { g with stack := rest }).pushFrame (.java (entryFrame mk As.toArray cM.maxLocals))) hT Y
  obtain ⟨⟨v, rfl⟩, hWe, hsame⟩ := hF
  obtain ⟨T', X', hW', hB', ht⟩ := X₁.outOf (g := { g with stack := rest }) hg (ig := .invokestatic index) (len := 3) (by rw [hb]; exact hdg) hend hWe hsame
  refine ⟨v, (T.setVm vm₁).calling { g with stack := rest } mk As.toArray, t, T', L, hT, X', hL, by rw [ht]; rfl, by rw [ht]; rfl, hq, fun target h => hstep₁ _ fun acts => ?_⟩
  rw [hin acts]
  exact (Steps.weaken (mid := [.java { g with stack := rest }]) st).trans (ht ▸ h)
/-- the end of a method that throws -/
def MQT (below : List Frame) (Qt : State → Addr → State → Prop) (s : State) (mc ms : Nat) (free : Addr → Prop) : State → Prop := fun t =>
  ∃ q, t.status = .running ∧ Ended t below (.threw q) ∧ Qt s q t ∧ s.WarmedH t.vm ∧ ∃ L, s.sameButNew ({ t with vm := s.vm } : State) L mc ms ∧ ∀ x ∈ L, free x.base
/-- 'new X()' and athrow, at the constructor's call: the method ends -/
theorem th_0 {cc : ByteArray} {nL pc ic : Nat} {ls : Array Slot} {rest : List Value} {own cls : String} {names : List String} {Qt : State → Addr → State → Prop} {free : Addr → Prop} {a : Addr} {cX : ClassId} {kX : Class}
    (hx : p.tables.exec = Jvm.exec) (hb : c.code = cc) (hml : c.maxLocals = nL) (hls : ls.size = nL) (htr : e.platform.stackTraces = false) (hown : s.vm.findClass own = some m.cls) (hcls : Bundle.fit cls = true) (hnames : ∀ n ∈ names, Bundle.fit n = true)
    (h : ∀ a ∈ Bundle.ownAtoms0 own ic cls names, a.before args s = true) (hlocs : ∀ x ∈ locs, ∀ cell, s.heap[x.base]? = some cell → cell.vm.isStatics = false)
    (hfX : s.vm.findClass cls = some cX) (hkX : s.vm.classes[cX]? = some kX) (hcell : H[a]? = some (freshCell cX kX)) (hnew : s.heap.size ≤ a)
    (d6 : decode cc pc = .ok (.invokespecial ic, 3)) (d9 : decode cc (pc + 3) = .ok (.athrow, 1)) (hout : ∀ x ∈ c.exceptionTable.toList, covers x (pc + 3) = false) (hfr : names.length + 3 < R.frames) (hlo : ((Value.ref a :: rest).map fun v => v.category).sum + (13 * (names.length + 1) + 41) ≤ R.locals) (hlocks : meth.locks = false)
    (hq : ∀ (t : State) (ce : Cell), t.heap[a]? = some ce → s.vm.findClass cls = some ce.cls → ce.vm = .none → Qt s a t) (hf : ∀ q ∈ locs, free q.base) :
    W p l e R s m args below meth c H locs cells slots (MQT below Qt s cells slots free) (F0 m pc ls (.ref a :: .ref a :: rest)) := by
  intro T hT X
  subst hT; subst hb
  obtain ⟨U, st, hrun, hend, hW, hsame, ce, hce, hown'⟩ := X.ctorThrow0 hx htr hown hcls hnames h hlocs hfX hkX hcell hnew (g := F0 m pc ls (.ref a :: .ref a :: rest)) rfl (hls.trans hml.symm) rfl rfl rfl d6 d9 hout hfr (by
    have : 2 * (F0 m pc ls (.ref a :: .ref a :: rest)).monitorRoom = 0 := rfl
    omega) hlocks
  exact ⟨U, st, a, hrun, hend, hq U ce hce hown'.cls hown'.vm, hW, locs, hsame, hf⟩
end IN
section OL
/-- all cells of an earlier state are as they were; its tables are warmer at most -/
def Old (s0 U : State) : Prop := s0.WarmedH U.vm ∧ s0.heap.size ≤ U.heap.size ∧ ∀ q, q < s0.heap.size → U.heap[q]? = s0.heap[q]?
theorem Old.step {s0 s U : State} {A : Nat → Prop} {H : Heap} {locs : List Loc} (hO : Old s0 s) (hAO : ∀ q : Nat, A q → s0.heap.size ≤ q) (hS : va_S A s.heap H locs) (hU : U.heap = H) (hW : s.WarmedH U.vm) : Old s0 U := by
  subst hU
  refine ⟨State.WarmedH.trans hO.1 hW, Nat.le_trans hO.2.1 hS.1, fun q hq => ?_⟩
  rw [hS.2.1 q (Nat.lt_of_lt_of_le hq hO.2.1) (fun h => Nat.not_lt.mpr (hAO q h) hq)]
  exact hO.2.2 q hq
theorem old_in {s0 s : State} {ws : va_W} {q : Nat} (hD : va_D (fun q => s0.heap.size ≤ q) ws) (hO : Old s0 s) (h : va_A ws s.heap.size q) : s0.heap.size ≤ q := by
  rcases h with ⟨k, e, h⟩ | h
  · exact hD.2 k (q, e) h
  · exact Nat.le_trans hO.2.1 h
def rl (l : List Nat) (k : Nat) : Nat := l.getD k 0
theorem vi_of {x N : Int32} {n : Nat} (hN : N.toInt = n) (h1 : ¬ x < 0) (h2 : ¬ N ≤ x) : vp_in x n := by
  rw [vp_in_iff]
  rw [Int32.lt_iff_toInt_lt] at h1
  rw [Int32.le_iff_toInt_le] at h2
  have h0 : (0 : Int32).toInt = 0 := by decide
  omega
theorem vi_lt {x : Int32} {n : Nat} (h : vp_in x n) : x.toNatClampNeg < n := Nat.lt_of_not_le (fun z => h (Or.inr z))
theorem le_of_nlt {x : Int32} (h : ¬ x < 0) : 0 ≤ x := by
  rw [Int32.lt_iff_toInt_lt] at h
  rw [Int32.le_iff_toInt_le]
  have h0 : (0 : Int32).toInt = 0 := by decide
  omega
theorem tne {x n : Int32} {z : Int} (hz : n.toInt = z) (h : ¬ x = n) : ¬ z = x.toInt := fun e => h (Int32.toInt_inj.mp (e.symm.trans hz.symm))
theorem i_m1 (x : Int32) : x + Int32.ofInt (-1) = x - 1 := by rw [Int32.sub_eq_add_neg]; rfl
theorem le480 {N : Nat} (h : N ≤ 8) : (0 : Int32) + nI N ≤ 480 := by
  have e : (0 : Int32) + nI N = nI (0 + N) := nI_add 0 N
  rw [e]
  exact nI_le (b := 480) (by omega) (by decide)
theorem nI_18 {n : Int32} (h1 : ¬ n < 1) (h8 : ¬ 8 < n) : ∃ N : Nat, 1 ≤ N ∧ N ≤ 8 ∧ n = nI N := by
  rw [Int32.lt_iff_toInt_lt] at h1 h8
  have e1 : (1 : Int32).toInt = 1 := by decide
  have e8 : (8 : Int32).toInt = 8 := by decide
  refine ⟨n.toInt.toNat, by omega, by omega, Int32.toInt_inj.mp ?_⟩
  rw [nI_toInt (by omega)]
  omega
def sw2 (f : Int32) : Int32 := if f = 0 then 0 else if f = 1 then 0 else -1
def sw5 (f : Int32) : Int32 := if f = 0 then 0 else if f = 1 then 0 else if f = 2 then 0 else if f = 3 then 0 else if f = 4 then 0 else -1
def bX (w : Int64) (i : Int32) : Int32 := ((w.toUInt64 >>> ((8 * i).toInt64.toUInt64 &&& Int64.toUInt64 63)).toInt64).toInt32 &&& 255
def bM (w : Int64) (i : Int32) : Int32 := ((w >>> ((8 * i : Int32).toInt64 &&& 63)) &&& 255).toInt32
def okB (b : Int32) : Prop := ¬ b < 33 ∧ b ≤ 126
noncomputable def tyF (f : Int32 → Int32) (n : Int32) : Int32 := (Classical.propDecidable (¬ n < 1 ∧ ¬ 8 < n ∧ ∀ j, j < n.toNatClampNeg → okB (f (nI j)))).casesOn (fun _ => 0) (fun _ => 1)
theorem tyF_0 {f : Int32 → Int32} {n : Int32} (h : ¬ (¬ n < 1 ∧ ¬ 8 < n ∧ ∀ j, j < n.toNatClampNeg → okB (f (nI j)))) : 0 = tyF f n := by
  unfold tyF
  cases Classical.propDecidable (¬ n < 1 ∧ ¬ 8 < n ∧ ∀ j, j < n.toNatClampNeg → okB (f (nI j))) with
  | isFalse _ => rfl
  | isTrue z => exact absurd z h
theorem tyF_1 {f : Int32 → Int32} {n : Int32} (h : ¬ n < 1 ∧ ¬ 8 < n ∧ ∀ j, j < n.toNatClampNeg → okB (f (nI j))) : 1 = tyF f n := by
  unfold tyF
  cases Classical.propDecidable (¬ n < 1 ∧ ¬ 8 < n ∧ ∀ j, j < n.toNatClampNeg → okB (f (nI j))) with
  | isFalse z => exact absurd h z
  | isTrue _ => rfl
theorem tyF_out {f : Int32 → Int32} {n : Int32} (h : n < 1 ∨ 8 < n) : 0 = tyF f n := tyF_0 (fun z => h.elim z.1 z.2.1)
theorem tyF_bad {f : Int32 → Int32} {N j : Nat} (h1 : 1 ≤ N) (h8 : N ≤ 8) (hj : j < N) (hb : ¬ okB (f (nI j))) : 0 = tyF f (nI N) := tyF_0 (fun z => hb (z.2.2 j (by rw [nI_clamp (by omega)]; exact hj)))
theorem tyF_ok {f : Int32 → Int32} {N : Nat} (h1 : 1 ≤ N) (h8 : N ≤ 8) (h : ∀ j, j < N → okB (f (nI j))) : 1 = tyF f (nI N) := tyF_1 ⟨nI_nlt (b := 1) h1 (by omega), nI_nlt (a := 8) h8 (by decide), fun j hj => h j (by rw [nI_clamp (by omega)] at hj; exact hj)⟩
theorem tyF_eq {f g : Int32 → Int32} {n : Int32} (h : ∀ j, j < 8 → f (nI j) = g (nI j)) : tyF f n = tyF g n := by
  by_cases hc : ¬ n < 1 ∧ ¬ 8 < n ∧ ∀ j, j < n.toNatClampNeg → okB (f (nI j))
  · obtain ⟨N, h1, h8, rfl⟩ := nI_18 hc.1 hc.2.1
    rw [← tyF_1 hc]
    refine tyF_1 ⟨hc.1, hc.2.1, fun j hj => ?_⟩
    have hj' := hj
    rw [nI_clamp (by omega)] at hj'
    rw [← h j (by omega)]
    exact hc.2.2 j hj
  · rw [← tyF_0 hc]
    refine tyF_0 (fun hz => hc ⟨hz.1, hz.2.1, fun j hj => ?_⟩)
    obtain ⟨N, h1, h8, rfl⟩ := nI_18 hz.1 hz.2.1
    have hj' := hj
    rw [nI_clamp (by omega)] at hj'
    rw [h j (by omega)]
    exact hz.2.2 j hj
end OL
section TH
variable {p : Program} {l : Launch} {e : Env} {R : Room} {s : State} {m : MethodId} {args : Array Value} {below : List Frame} {meth : Method} {c : Code} {H : Heap} {T : State} {locs : List Loc} {cells slots : Nat} {Q : State → Prop}
/-- what is thrown is caught by the table's first entry, whose class may not be resolved yet -/
theorem ct_cold (X : Stand p l e R s m args below meth c T locs cells slots) {g : JFrame} (hg : g.method = m) {a : Addr} {x : ExceptionTableEntry} {rest : List ExceptionTableEntry} (hsplit : c.exceptionTable.toList = x :: rest) (hx : covers x g.pc = true) (h0 : x.catchType ≠ 0) {own name : String} (hown : s.vm.findClass own = some m.cls) (hlink : (Cond.classLink own x.catchType name).before args s = true) {cX : ClassId} (hfX : s.vm.findClass name = some cX) {ce : Cell} (hcell : T.heap[a]? = some ce) (hce : ce.cls = cX) (hvm : ce.vm = .none) :
    ∃ vm₂, s.WarmedH vm₂ ∧ ∀ target, Steps p.tables e below ((T.setVm vm₂).setTop { g with pc := x.handlerPc, stack := [.ref a] }) target → Steps p.tables e below ((T.setTop g).pushFrame (.throwing a)) target := by
  subst hg
  have hpl : e.platform.magicAccessors = ({} : Platform).magicAccessors := by rw [X.admits.platform]
  obtain ⟨c0, hfc0, hcl⟩ := Cond.classLink_spec hown hlink e.platform hpl
  cases hfX.symm.trans hfc0
  obtain ⟨hg₁, hwarm₁, hready₁⟩ := State.classEntry (e := e) X.warmed hcl
  generalize T.vm.noted g.method.cls x.catchType (.cls cX) = vm₁ at hg₁ hwarm₁ hready₁
  refine ⟨vm₁, hwarm₁, fun target hrest => ?_⟩
  have hm : ((T.setTop g).pushFrame (.throwing a)).vm.method? g.method = some meth := by rw [Stand.throwing_vm]; exact X.method'
  have hvm0 : ((T.setTop g).pushFrame (.throwing a)).vm = T.vm := Stand.throwing_vm T g a
  have hh0 : ((T.setTop g).pushFrame (.throwing a)).heap = T.heap := Stand.throwing_heap T g a
  have hal : T.vm.Alike vm₁ := X.warmed.alike.symm.trans hwarm₁.alike
  obtain ⟨kX, hkX⟩ := Vm.classAt_of_findClass (vm := vm₁) (name := name) (c := cX) (by rw [hwarm₁.alike.findClass]; exact hfX)
  have FV : ∀ (Q : Handler → Pre) (E : CtlPost) (d : Bool) (acts : List Action), wp (findHandler g a) Q E e d acts ((T.setTop g).pushFrame (.throwing a)) ↔ Q (.found x.handlerPc) d acts (((T.setTop g).pushFrame (.throwing a)).setVm vm₁) := by
    intro Q E d acts
    rw [W.findHandler_eq hm X.code, hsplit]
    have hx' := hx
    simp only [covers] at hx'
    rw [← hvm0] at hg₁
    obtain ⟨ha, ht⟩ := hg₁.op (op := VmOp.resolveClass g.method.cls x.catchType) rfl
    have hsz : vm₁.classes.size ≤ ((T.setTop g).pushFrame (.throwing a)).vm.classes.size := by rw [hvm0]; exact hal.size_le
    have hcell' : ((T.setTop g).pushFrame (.throwing a)).heap[a]? = some ce := by rw [hh0]; exact hcell
    have hself : vm₁.assignable cX cX = true := by
      show vm₁.assignableAux (255 + 1) cX cX = true
      rw [Vm.assignableAux]
      simp
    simp [findHandler.go, hx', h0, ha, ht, hsz, hcell', hvm, hce, hkX, hself, VmOp.dirties, VmOp.acts]
  have h : At T g.method c below := X.here
  obtain ⟨hgo, hw⟩ := h.throwing a
  refine Steps.head hgo hw ?_
  rw [stepThread_throwing (frames_entered h.top _)]
  have step : (stepThrowing e ((T.setTop g).pushFrame (.throwing a)) a (.java g :: T.frames.tail)).Is ((((T.setTop g).pushFrame (.throwing a)).setVm vm₁).setFrames (.java { g with pc := x.handlerPc, stack := [.ref a] } :: T.frames.tail)) [] := by
    simp only [stepThrowing, searchFrame, vmDo]
    generalize hr : Sem.go _ e false [] _ = res
    obtain ⟨as, rfl, ha⟩ := Sem.eq_ok_of hr (a := Handler.found x.handlerPc) (s' := ((T.setTop g).pushFrame (.throwing a)).setVm vm₁) (acts' := []) (by simp [FV])
    exact ⟨rfl, ha⟩
  rw [step.1]
  obtain ⟨g₀, hgg⟩ := Option.isSome_iff_exists.mp h.top
  obtain ⟨r, hr⟩ := State.topJava?_eq_some.mp hgg
  have hr' : (T.setVm vm₁).frames = .java g₀ :: r := hr
  rw [State.setTop_of_frames _ hr'] at hrest
  rw [State.pushFrame, State.setTop_of_frames _ hr, hr]
  show Steps p.tables e below ((((T.setVm vm₁).setFrames (.java g :: r)).setFrames (.throwing a :: (T.setFrames (.java g :: r)).frames)).setFrames (.java { g with pc := x.handlerPc, stack := [.ref a] } :: r)) target
  rw [State.setFrames_setFrames, State.setFrames_setFrames]
  exact hrest
/-- an instance method that throws, its body walked at the call; the caller catches it -/
theorem in_VT {R' : Room} {own C : String} {index hpc : Nat} {y : MethodName} {bytes cc : ByteArray} {maxL nL mc ms : Nat} {ret : Option FieldType} {Qt : Addr → Heap → Prop} {free : Addr → Prop} {b : Addr} {As rest : List Value} {g : JFrame}
    (hx : p.tables.exec = Jvm.exec) (hb : c.code = cc) (hml : c.maxLocals = nL) (hown : s.vm.findClass own = some m.cls)
    (hlink : (Cond.methodLink own index y).before args s = true) (hinst : (Cond.instanceMethod y).before args s = true) (hsel : (Cond.selects C y y).before args s = true) (hcode : (Cond.code y bytes maxL ret).before args s = true)
    (hy : y.cls ≠ "java/lang/invoke/MethodHandle" ∧ y.cls ≠ "java/lang/invoke/VarHandle") (hpl : plainName y.cls = true) (hlen : ∀ sig, parseMethodDescriptor y.desc = some sig → As.length = sig.parameters.length)
    (hrecv : ∃ cellB : Cell, H[b]? = some cellB ∧ cellB.vm.isStatics = false ∧ s.vm.findClass C = some cellB.cls)
    (hg : g.method = m) (hsize : g.locals.size = nL) (hstack : g.stack = As.reverse ++ .ref b :: rest) (hW : 2 * g.monitorRoom + (rest.map fun v => v.category).sum ≤ 8) (hdg : decode cc g.pc = .ok (.invokevirtual index, 3))
    (hf : cells + mc ≤ R.cells ∧ slots + ms ≤ R.slots) (hR : R'.frames + 1 ≤ R.frames ∧ 8 + (maxL + 11) + R'.locals ≤ R.locals ∧ R'.cells = mc ∧ R'.slots = ms)
    (body : ∀ (s' : State) (mk : MethodId) (methk : Method) (ck : Code) (bel : List Frame), s'.heap = H → s.WarmedH s'.vm → s'.vm.findClass y.cls = some mk.cls → ck.code = bytes → ck.maxLocals = maxL → ck.exceptionTable.isEmpty = true → methk.locks = false →
      W p l e R' s' mk (Value.ref b :: As).toArray bel methk ck H [] 0 0 (MQT bel (fun _ q t => Qt q t.heap) s' mc ms free) (entryFrame mk (Value.ref b :: As).toArray maxL))
    (hcatch : ∀ (T : State) (q : Addr) (l1 : List Loc) (c1 s1 : Nat), Stand p l e R s m args below meth c T l1 c1 s1 → Qt q T.heap → ∃ vm₂, s.WarmedH vm₂ ∧ ∀ target, Steps p.tables e below ((T.setVm vm₂).setTop { g with pc := hpc, stack := [.ref q] }) target → Steps p.tables e below ((T.setTop { g with stack := rest }).pushFrame (.throwing q)) target)
    (kk : ∀ (q : Addr) (H1 : Heap) (L : List Loc), (∀ x ∈ L, free x.base) → H.size ≤ H1.size → (∀ z, z < H.size → (∀ x ∈ L, x.base ≠ z) → H1[z]? = H[z]?) → W p l e R s m args below meth c H1 (locs ++ L) (cells + mc) (slots + ms) Q { g with pc := hpc, stack := [.ref q] }) :
    W p l e R s m args below meth c H locs cells slots Q g := by
  intro T hT X
  obtain ⟨mk, methM, hnamed, hmethM, hstM, habM⟩ := Cond.instanceMethod_spec hinst
  obtain ⟨methM', cM, hmethM', hcM, hbM, hlM, hrM, hlkM, heM, hsigM⟩ := Cond.code_spec hnamed hcode
  subst hlM
  cases hmethM.symm.trans hmethM'
  obtain ⟨c2, r2, m2, q1, q2, q3, q4, kP, hkP, hkPi⟩ := Cond.selects_spec hsel
  obtain ⟨cellB, hcB, hoB, hclB⟩ := hrecv
  cases hclB.symm.trans q1
  cases (State.methodFound?_of_named hnamed hy).symm.trans q2
  cases hnamed.symm.trans q3
  have hselP : selectMethod e.platform s.vm cellB.cls mk = .method mk := by rw [Launch.admits_selectMethod X.admits]; exact q4
  obtain ⟨vm₁, X₁, hstep₁⟩ := X.invokevirtual hx hown hlink hnamed hmethM hstM hkP hkPi hy (a := b) (cell := cellB) (by rw [hT]; exact hcB)
    (fun z h => by rw [h] at hoB; cases hoB) hselP hmethM habM hkP hkPi (g := g) hg (argsL := As) (rest := rest) (hlen _ hsigM) hstack (by rw [hb]; exact hdg)
  have hal : s.vm.Alike vm₁ := X₁.warmed.alike
  have hmk : (T.setVm vm₁).vm.method? mk = some methM := by
    show vm₁.method? mk = _
    rw [hal.method?]
    exact hmethM
  have hpk : (T.setVm vm₁).plainMethod mk := State.plainMethod.of_named (s := T.setVm vm₁) (plainFor_of_name hpl) (X₁.named hnamed) hmk
  have hsz : ({ g with stack := rest } : JFrame).locals.size = c.maxLocals := hsize.trans hml.symm
  obtain ⟨Y, hin⟩ := X₁.into (g := { g with stack := rest }) hg hsz (ig := .invokevirtual index) (len := 3) (by rw [hb]; exact hdg) (Value.ref b :: As).toArray (R' := R') hmk hcM hlkM hpk hR.1 (Nat.le_trans (Nat.add_le_add_right (Nat.add_le_add_right hW _) _) hR.2.1) (by rw [hR.2.2.1]; exact hf.1) (by rw [hR.2.2.2]; exact hf.2)
  have hfc : ((T.setVm vm₁).calling { g with stack := rest } mk (Value.ref b :: As).toArray).vm.findClass y.cls = some mk.cls := by
    show vm₁.findClass _ = _
    rw [hal.findClass]
    exact findClass_of_methodNamed hnamed
  obtain ⟨t, st, q, hrun, hend, hq, hWe, L, hsame, hL⟩ := body ((T.setVm vm₁).calling { g with stack := rest } mk (Value.ref b :: As).toArray) mk methM cM (.java { g with stack := rest } :: below) hT X₁.warmed hfc hbM rfl heM hlkM (((T.setVm vm₁).setTop { g with stack := rest }).pushFrame (.java (entryFrame mk (Value.ref b :: As).toArray cM.maxLocals))) hT Y
  obtain ⟨T', X', hW', hB', ht⟩ := X₁.outOfThrown (g := { g with stack := rest }) hg hend hWe hsame
  have hTh : T'.heap = t.heap := by rw [ht]; exact (Stand.throwing_heap _ _ _).symm
  obtain ⟨vm₂, hw2, hst2⟩ := hcatch T' q _ _ _ X' (by rw [hTh]; exact hq)
  have X'' := X'.noted hw2
  have hkeep : ∀ z, z < H.size → (∀ x ∈ L, x.base ≠ z) → T'.heap[z]? = H[z]? := by
    intro z hz hoff
    have hTz : (T.setVm vm₁).heap[z]? = some H[z] := by
      show T.heap[z]? = _
      rw [hT]
      exact Array.getElem?_eq_getElem hz
    have := State.sameButNew.kept_off hB' (a := z) (c := H[z]) (fun i hmem => hoff _ hmem rfl) hTz
    rw [Array.getElem?_eq_getElem hz]
    exact this
  have hsz2 : H.size ≤ T'.heap.size := by
    have := hB'.2.1
    rw [← hT]
    exact this
  obtain ⟨t2, a1, b1⟩ := kk q T'.heap L hL hsz2 hkeep (T'.setVm vm₂) rfl X''
  refine ⟨t2, hstep₁ _ fun acts => ?_, b1⟩
  rw [hin acts]
  exact (Steps.weaken (mid := [.java { g with stack := rest }]) st).trans (ht ▸ hst2 _ a1)
end TH
theorem bXM (w : Int64) (i : Nat) (hi : i < 8) : bX w (nI i) = bM w (nI i) := by
  have key : ∀ (k : Nat), k ≤ 56 → ∀ (u : UInt64) (v : Int64), u.toNat = k → (v.toBitVec.smod 64).toNat = k → ((w.toUInt64 >>> u).toInt64).toInt32 &&& 255 = ((w >>> v) &&& 255).toInt32 := by
    intro k hk u v hu hv
    have e1 : (w.toUInt64 >>> u).toInt64.toBitVec = w.toBitVec >>> k := by
      apply BitVec.eq_of_toNat_eq
      show (w.toUInt64 >>> u).toNat = _
      rw [UInt64.toNat_shiftRight, hu, Nat.mod_eq_of_lt (by omega), BitVec.toNat_ushiftRight]
      rfl
    have e2 : (w >>> v).toBitVec = w.toBitVec.sshiftRight k := by
      show w.toBitVec.sshiftRight (v.toBitVec.smod 64).toNat = _
      rw [hv]
    apply Int32.toBitVec_inj.mp
    rw [Int32.toBitVec_and]
    show (((w.toUInt64 >>> u).toInt64.toBitVec).signExtend 32) &&& 255#32 = ((w >>> v).toBitVec &&& 255#64).signExtend 32
    rw [e1, e2, BitVec.signExtend_eq_setWidth_of_le _ (by decide), BitVec.signExtend_eq_setWidth_of_le _ (by decide)]
    apply BitVec.eq_of_getLsbD_eq
    intro j hj
    rw [BitVec.getLsbD_and, BitVec.getLsbD_setWidth, BitVec.getLsbD_setWidth, BitVec.getLsbD_and, BitVec.getLsbD_ushiftRight, BitVec.getLsbD_sshiftRight]
    by_cases h8 : j < 8
    · have h1 : ¬ 64 ≤ j := by omega
      have h2 : k + j < 64 := by omega
      have h3 : (255#32).getLsbD j = (255#64).getLsbD j := by
        have : j = 0 ∨ j = 1 ∨ j = 2 ∨ j = 3 ∨ j = 4 ∨ j = 5 ∨ j = 6 ∨ j = 7 := by omega
        rcases this with rfl | rfl | rfl | rfl | rfl | rfl | rfl | rfl <;> rfl
      rw [h3]
      simp [h1, h2, hj]
    · have h3 : (255#32).getLsbD j = false := by
        rw [BitVec.getLsbD_ofNat, show (255 : Nat) = 2 ^ 8 - 1 from rfl, Nat.testBit_two_pow_sub_one]
        simp [h8]
      have h4 : (255#64).getLsbD j = false := by
        rw [BitVec.getLsbD_ofNat, show (255 : Nat) = 2 ^ 8 - 1 from rfl, Nat.testBit_two_pow_sub_one]
        simp [h8]
      simp [h3, h4]
  have hc : i = 0 ∨ i = 1 ∨ i = 2 ∨ i = 3 ∨ i = 4 ∨ i = 5 ∨ i = 6 ∨ i = 7 := by omega
  rcases hc with rfl | rfl | rfl | rfl | rfl | rfl | rfl | rfl
  · exact key 0 (by decide) _ _ (by decide) (by decide)
  · exact key 8 (by decide) _ _ (by decide) (by decide)
  · exact key 16 (by decide) _ _ (by decide) (by decide)
  · exact key 24 (by decide) _ _ (by decide) (by decide)
  · exact key 32 (by decide) _ _ (by decide) (by decide)
  · exact key 40 (by decide) _ _ (by decide) (by decide)
  · exact key 48 (by decide) _ _ (by decide) (by decide)
  · exact key 56 (by decide) _ _ (by decide) (by decide)
theorem fill_inv {f : Nat → Int32} {v : Int32} {i : Nat} (h : ∀ j, j < i → f j = v) (hi : i < 2 ^ 31) : ∀ j, j < i + 1 → upd f (nI i).toNatClampNeg v j = v := by
  intro j hj
  rw [nI_clamp hi]
  unfold upd
  by_cases hji : j = i
  · simp [hji]
  · simp [hji, h j (by omega)]
