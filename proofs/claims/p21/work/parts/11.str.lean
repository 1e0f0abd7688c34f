-- the two literals of the Reader, as the law's start has them
def sB (i j : Nat) : Int32 := (if i = 0 then [119, 114, 111, 99, 116, 115, 112] else [60, 38, 33] : List Int32).getD j 0
def sL (i : Nat) : Nat := if i = 0 then 7 else 3
def xE (s0 : State) (qS : Nat → Nat) : Prop :=
  (∀ i, i < 2 → va_O "java/lang/String" (qS i) (fun q => s0.heap.size ≤ q) s0 s0.heap ∧ va_OF "java/lang/String" "value" "[B" (.ref (qS (i + 2))) (qS i) (fun q => s0.heap.size ≤ q) s0 s0.heap ∧ va_OF "java/lang/String" "coder" "B" (.int 0) (qS i) (fun q => s0.heap.size ≤ q) s0 s0.heap ∧ va_T .byte (qS (i + 2)) (sL i) (fun j => .int (sB i j)) (fun q => s0.heap.size ≤ q) s0 s0.heap) ∧ va_Z "java/lang/String" "COMPACT_STRINGS" "Z" (.int 1) (fun q => s0.heap.size ≤ q) s0 s0.heap ∧ vk_R "ChipMap$Reader" 113 "wroctsp" (qS 0) s0 ∧ vk_R "ChipMap$Reader" 140 "<&!" (qS 1) s0
section XE
variable {s0 s : State} {qS : Nat → Nat} {A : Nat → Prop}
theorem xE.o (h : xE s0 qS) (hO : Old s0 s) (hAO : ∀ q, A q → s0.heap.size ≤ q) {i : Nat} (hi : i < 2) : va_O "java/lang/String" (qS i) A s s.heap := ((va_O.moved hO.1.alike (h.1 i hi).1).kept (fun a h _ => hO.2.2 a h)).narrow hAO
theorem xE.v (h : xE s0 qS) (hO : Old s0 s) (hAO : ∀ q, A q → s0.heap.size ≤ q) {i : Nat} (hi : i < 2) : va_OF "java/lang/String" "value" "[B" (.ref (qS (i + 2))) (qS i) A s s.heap := ((va_OF.moved hO.1.alike (h.1 i hi).2.1).kept (fun a h _ => hO.2.2 a h)).narrow hAO
theorem xE.c (h : xE s0 qS) (hO : Old s0 s) (hAO : ∀ q, A q → s0.heap.size ≤ q) {i : Nat} (hi : i < 2) : va_OF "java/lang/String" "coder" "B" (.int 0) (qS i) A s s.heap := ((va_OF.moved hO.1.alike (h.1 i hi).2.2.1).kept (fun a h _ => hO.2.2 a h)).narrow hAO
theorem xE.t (h : xE s0 qS) (hO : Old s0 s) (hAO : ∀ q, A q → s0.heap.size ≤ q) {i : Nat} (hi : i < 2) : va_T .byte (qS (i + 2)) (sL i) (fun j => .int (sB i j)) A s s.heap := ((va_T.moved hO.1.alike (h.1 i hi).2.2.2).kept (fun a h _ => hO.2.2 a h)).narrow hAO
theorem xE.z (h : xE s0 qS) (hO : Old s0 s) (hAO : ∀ q, A q → s0.heap.size ≤ q) : va_Z "java/lang/String" "COMPACT_STRINGS" "Z" (.int 1) A s s.heap := ((va_Z.moved hO.1.alike h.2.1).kept (fun a h _ => hO.2.2 a h)).narrow hAO
theorem xE.l0 (h : xE s0 qS) : vk_R "ChipMap$Reader" 113 "wroctsp" (qS 0) s0 := h.2.2.1
theorem xE.l1 (h : xE s0 qS) : vk_R "ChipMap$Reader" 140 "<&!" (qS 1) s0 := h.2.2.2
theorem xE.recv {H : Heap} {locs : List Loc} (h : xE s0 qS) (hO : Old s0 s) (hAO : ∀ q, A q → s0.heap.size ≤ q) (hS : va_S A s.heap H locs) {i : Nat} (hi : i < 2) : ∃ cell : Cell, H[qS i]? = some cell ∧ cell.vm.isStatics = false ∧ s.vm.findClass "java/lang/String" = some cell.cls := by
  obtain ⟨cell, h1, h2, h3, -⟩ := (h.o hO hAO hi).kept hS.2.1
  exact ⟨cell, h1, h2, h3⟩
end XE
