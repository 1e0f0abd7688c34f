-- as in p1, part 06
/-- the literal "wroctsp" as the start has it, its bytes, and that strings are compact -/
def StrF (s0 : State) (qs qv : Nat) (fb : Nat → Value) : Prop :=
  vk_R "ChipMap$Layout" 27 "wroctsp" qs s0 ∧ va_O "java/lang/String" qs (fun q => s0.heap.size ≤ q) s0 s0.heap ∧ va_OF "java/lang/String" "value" "[B" (.ref qv) qs (fun q => s0.heap.size ≤ q) s0 s0.heap ∧ va_OF "java/lang/String" "coder" "B" (.int 0) qs (fun q => s0.heap.size ≤ q) s0 s0.heap ∧ va_T .byte qv 7 fb (fun q => s0.heap.size ≤ q) s0 s0.heap ∧ va_Z "java/lang/String" "COMPACT_STRINGS" "Z" (.int 1) (fun q => s0.heap.size ≤ q) s0 s0.heap
/-- the links among nest mates as the start has them -/
def NwF (s0 : State) : Prop := va_Nw (.methodLinkNest "ChipMap" 11 ⟨"ChipMap$Draft", "<init>", "()V"⟩ "ChipMap") s0 ∧ va_Nw (.methodLinkNest "ChipMap$Draft" 50 ⟨"ChipMap$Rules", "<init>", "()V"⟩ "ChipMap") s0 ∧ va_Nw (.methodLinkNest "ChipMap$Layout" 57 ⟨"ChipMap$Rules", "<init>", "()V"⟩ "ChipMap") s0 ∧ va_Nw (.methodLinkNest "ChipMap$Device" 11 ⟨"ChipMap$Log", "<init>", "()V"⟩ "ChipMap") s0 ∧ True
section SF
variable {s0 s : State} {qs qv : Nat} {fb : Nat → Value} {A : Nat → Prop}
theorem StrF.o (h : StrF s0 qs qv fb) (hO : Old s0 s) (hAO : ∀ q, A q → s0.heap.size ≤ q) : va_O "java/lang/String" qs A s s.heap := ((va_O.moved hO.1.alike h.2.1).kept (fun a h _ => hO.2.2 a h)).narrow hAO
theorem StrF.v (h : StrF s0 qs qv fb) (hO : Old s0 s) (hAO : ∀ q, A q → s0.heap.size ≤ q) : va_OF "java/lang/String" "value" "[B" (.ref qv) qs A s s.heap := ((va_OF.moved hO.1.alike h.2.2.1).kept (fun a h _ => hO.2.2 a h)).narrow hAO
theorem StrF.c (h : StrF s0 qs qv fb) (hO : Old s0 s) (hAO : ∀ q, A q → s0.heap.size ≤ q) : va_OF "java/lang/String" "coder" "B" (.int 0) qs A s s.heap := ((va_OF.moved hO.1.alike h.2.2.2.1).kept (fun a h _ => hO.2.2 a h)).narrow hAO
theorem StrF.t (h : StrF s0 qs qv fb) (hO : Old s0 s) (hAO : ∀ q, A q → s0.heap.size ≤ q) : va_T .byte qv 7 fb A s s.heap := ((va_T.moved hO.1.alike h.2.2.2.2.1).kept (fun a h _ => hO.2.2 a h)).narrow hAO
theorem StrF.z (h : StrF s0 qs qv fb) (hO : Old s0 s) (hAO : ∀ q, A q → s0.heap.size ≤ q) : va_Z "java/lang/String" "COMPACT_STRINGS" "Z" (.int 1) A s s.heap := ((va_Z.moved hO.1.alike h.2.2.2.2.2).kept (fun a h _ => hO.2.2 a h)).narrow hAO
theorem StrF.recv {H : Heap} {locs : List Loc} (h : StrF s0 qs qv fb) (hO : Old s0 s) (hAO : ∀ q, A q → s0.heap.size ≤ q) (hS : va_S A s.heap H locs) : ∃ cell : Cell, H[qs]? = some cell ∧ cell.vm.isStatics = false ∧ s.vm.findClass "java/lang/String" = some cell.cls := by
  obtain ⟨cell, h1, h2, h3, -⟩ := (h.o hO hAO).kept hS.2.1
  exact ⟨cell, h1, h2, h3⟩
end SF
