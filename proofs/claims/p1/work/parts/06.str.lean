/-- the literal "wroctsp" as the start has it, its bytes, and that strings are compact -/
def StrF (s0 : State) (qs qv : Nat) (fb : Nat → Value) : Prop :=
  vk_R "ChipMap$Layout" 27 "wroctsp" qs s0 ∧ va_O "java/lang/String" qs (fun q => s0.heap.size ≤ q) s0 s0.heap ∧ va_OF "java/lang/String" "value" "[B" (.ref qv) qs (fun q => s0.heap.size ≤ q) s0 s0.heap ∧ va_OF "java/lang/String" "coder" "B" (.int 0) qs (fun q => s0.heap.size ≤ q) s0 s0.heap ∧ va_T .byte qv 7 fb (fun q => s0.heap.size ≤ q) s0 s0.heap ∧ va_Z "java/lang/String" "COMPACT_STRINGS" "Z" (.int 1) (fun q => s0.heap.size ≤ q) s0 s0.heap
/-- the links among nest mates, and the class of int[][], as the start has them -/
def NwF (s0 : State) : Prop := va_Nw (.methodLinkNest "ChipMap" 11 ⟨"ChipMap$Draft", "<init>", "()V"⟩ "ChipMap") s0 ∧ va_Nw (.methodLinkNest "ChipMap$Draft" 50 ⟨"ChipMap$Rules", "<init>", "()V"⟩ "ChipMap") s0 ∧ va_Nw (.methodLinkNest "ChipMap$Layout" 57 ⟨"ChipMap$Rules", "<init>", "()V"⟩ "ChipMap") s0 ∧ va_Nw (.methodLinkNest "ChipMap$Device" 11 ⟨"ChipMap$Log", "<init>", "()V"⟩ "ChipMap") s0 ∧ va_Nw (.arrayOver (.array .int)) s0
theorem ao_old {s0 s : State} {args : Array Value} (hO : Old s0 s) (h : va_Nw (.arrayOver (.array .int)) s0) : (Cond.arrayOver (.array .int)).before args s = true := by
  have h1 := Cond.overAtom_setVm (args := #[]) hO.1.alike (.arrayOver (.array .int)) rfl h
  exact h1
section SF
variable {s0 s : State} {qs qv : Nat} {fb : Nat → Value} {A : Nat → Prop}
theorem StrF.o (h : StrF s0 qs qv fb) (hO : Old s0 s) (hAO : ∀ q, A q → s0.heap.size ≤ q) : va_O "java/lang/String" qs A s s.heap := ((va_O.moved hO.1.alike h.2.1).kept (fun a h _ => hO.2.2 a h)).narrow hAO
theorem StrF.v (h : StrF s0 qs qv fb) (hO : Old s0 s) (hAO : ∀ q, A q → s0.heap.size ≤ q) : va_OF "java/lang/String" "value" "[B" (.ref qv) qs A s s.heap := ((va_OF.moved hO.1.alike h.2.2.1).kept (fun a h _ => hO.2.2 a h)).narrow hAO
theorem StrF.c (h : StrF s0 qs qv fb) (hO : Old s0 s) (hAO : ∀ q, A q → s0.heap.size ≤ q) : va_OF "java/lang/String" "coder" "B" (.int 0) qs A s s.heap := ((va_OF.moved hO.1.alike h.2.2.2.1).kept (fun a h _ => hO.2.2 a h)).narrow hAO
theorem StrF.t (h : StrF s0 qs qv fb) (hO : Old s0 s) (hAO : ∀ q, A q → s0.heap.size ≤ q) : va_T .byte qv 7 fb A s s.heap := ((va_T.moved hO.1.alike h.2.2.2.2.1).kept (fun a h _ => hO.2.2 a h)).narrow hAO
theorem StrF.z (h : StrF s0 qs qv fb) (hO : Old s0 s) (hAO : ∀ q, A q → s0.heap.size ≤ q) : va_Z "java/lang/String" "COMPACT_STRINGS" "Z" (.int 1) A s s.heap := ((va_Z.moved hO.1.alike h.2.2.2.2.2).kept (fun a h _ => hO.2.2 a h)).narrow hAO
theorem StrF.recv {H : Heap} {locs : List Loc} (h : StrF s0 qs qv fb) (hO : Old s0 s) (hAO : ∀ q, A q → s0.heap.size ≤ q) (hS : va_S A s.heap H locs) : ∃ cell : Cell, H[qs]? = some cell ∧ cell.vm.isStatics = false ∧ s.vm.findClass "java/lang/String" = some cell.cls := by
  obtain ⟨cell, h1, h2, h3, -⟩ := (h.o hO hAO).kept hS.2.1
  exact ⟨cell, h1, h2, h3⟩
end SF
section MN
variable {p : Program} {l : Launch} {e : Env} {R : Room} {s : State} {m : MethodId} {args : Array Value} {below : List Frame} {meth : Method} {c : Code} {H : Heap} {locs : List Loc} {cells slots : Nat} {Q : State → Prop}
variable {cc : ByteArray} {pc : Nat} {ls : Array Slot} {rest : List Value} {D : va_G} {cl : List vw_C} {A : Nat → Prop} {tys : List (ClassId × FieldType)} {ws : va_W} {H0 : Heap}
/-- new int[7][16], of which nothing is kept but that it is new -/
theorem nw_m (hexec : p.tables.exec = Jvm.exec) (hb : c.code = cc) {own : String} {index : Nat} (hown : s.vm.findClass own = some m.cls) (hclink : (Cond.classLink own index "[[I").before args s = true) (hover : (Cond.arrayOver (.array .int)).before args s = true) (harr : (Cond.arrayClass .int).before args s = true)
    (hP : va_P D cl ws H) (hD : va_D A ws) (hS : va_S A H0 H locs) (hA : ∀ q, H0.size ≤ q → A q) (hcells : cells + 8 ≤ R.cells) (hslots : slots + 119 ≤ R.slots) (hdg : decode cc pc = .ok (.multianewarray index 2, 4))
    (kk : ∀ (q : Nat) (H1 : Heap) (locs1 : List Loc), va_P D cl ws H1 → va_D A ws → va_S A H0 H1 locs1 → W p l e R s m args below meth c H1 locs1 (cells + 8) (slots + 119) Q (F0 m (pc + 4) ls (.ref q :: rest))) : W p l e R s m args below meth c H locs cells slots Q (F0 m pc ls (.int 16 :: .int 7 :: rest)) := by
  intro T hT X
  subst hT; subst hb
  obtain ⟨vm₁, cA, comp, hW1, -, -, X', st⟩ := X.multianewarray2 hexec (ty := .int) hown hclink hover harr (g := F0 m pc ls (.int 16 :: .int 7 :: rest)) rfl hdg (n := 7) (k := 16) rfl (by decide) (by decide) (by decide) (by decide) (by decide) rfl rfl hcells hslots
  have hold : ∀ q, q < T.heap.size → (Jvm.Free.Multi.fill (T.setVm vm₁) cA comp (7 : Int32).toNatClampNeg (16 : Int32).toNatClampNeg (defaultValue .int) (7 : Int32).toNatClampNeg).heap[q]? = T.heap[q]? := fun q hq => Jvm.Free.Multi.fill_old (T.setVm vm₁) cA comp _ _ _ hq _
  have hsz := (Jvm.Free.Multi.fill_facts (T.setVm vm₁) cA comp (7 : Int32).toNatClampNeg (16 : Int32).toNatClampNeg (defaultValue .int) (7 : Int32).toNatClampNeg).1
  have hle : T.heap.size ≤ (Jvm.Free.Multi.fill (T.setVm vm₁) cA comp (7 : Int32).toNatClampNeg (16 : Int32).toNatClampNeg (defaultValue .int) (7 : Int32).toNatClampNeg).heap.size := by
    rw [hsz]
    show T.heap.size ≤ T.heap.size + 1 + _
    omega
  obtain ⟨t, a1, b1⟩ := kk T.heap.size _ _ (hP.kept (fun k q hq => hold q.1 ((hP k q hq).lt))) hD ⟨Nat.le_trans hS.1 hle, fun q h1 h2 => (hold q (Nat.lt_of_lt_of_le h1 hS.1)).trans (hS.2.1 q h1 h2), fun x hx => by
    rcases List.mem_append.mp hx with hx | hx
    · exact hS.2.2 x hx
    · obtain ⟨j, -, rfl⟩ := List.mem_map.mp hx
      exact hA _ hS.1⟩ _ rfl X'
  exact ⟨t, st t a1, b1⟩
end MN
