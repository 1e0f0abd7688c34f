section OT
variable {s0 s : State} {args args' : Array Value} {O f d : String}
theorem ls_old (hO : Old s0 s) (h : (Cond.laysStatic O f d).before args s0 = true) : (Cond.laysStatic O f d).before args' s = true := by
  obtain ⟨c, k, i, fd, a, cell, hc, hi, hst, ha, hcell, hs, hcls, hlt, hty⟩ := Cond.laysStatic_spec h
  obtain ⟨k', hi', hek⟩ := State.fieldFound?_setVm hO.1.alike hi
  exact Cond.laysStatic_of (s := s) (by rw [hO.1.alike.findClass]; exact hc) hi' hst (by rw [hek]; exact ha) (by rw [hO.2.2 a (Array.getElem?_eq_some_iff.mp hcell).1]; exact hcell) hs hcls hlt (by rw [hek]; exact hty)
theorem ir_old (hO : Old s0 s) (hl : (Cond.laysStatic O f d).before args s0 = true) (h : (Cond.isRef (.static O f d)).before args s0 = true) : (Cond.isRef (.static O f d)).before args' s = true := by
  obtain ⟨c, k, i, fd, a, cell, hc, hi, hst, ha, hcell, hs, hcls, hlt, hty⟩ := Cond.laysStatic_spec hl
  obtain ⟨k', hi', hek⟩ := State.fieldFound?_setVm hO.1.alike hi
  have hi2 : s.fieldFound? O f d = some (c, k', i, fd) := hi'
  have ha2 : k'.statics = some a := by rw [hek]; exact ha
  have hcell2 : s.heap[a]? = some cell := by rw [hO.2.2 a (Array.getElem?_eq_some_iff.mp hcell).1]; exact hcell
  have e0 : (Term.static O f d).eval args s0 none [] s0 = cell.slots[fd.slot]? := by simp [Term.eval, State.fieldNamed?, hi, hst, ha, hcell, hs]
  have e1 : (Term.static O f d).eval args' s none [] s = cell.slots[fd.slot]? := by simp [Term.eval, State.fieldNamed?, hi2, hst, ha2, hcell2, hs]
  simp only [Cond.before, Cond.holds, Cond.value, e0] at h
  simp only [Cond.before, Cond.holds, Cond.value, e1]
  exact h
/-- what the start says of Throwable's statics, and of X's chain of constructors -/
def ThrF (X : String) (s0 : State) : Prop := va_Nw (.declares ⟨"java/lang/RuntimeException", "<init>", "()V"⟩) s0 ∧ va_Nw (.declares ⟨"java/lang/Exception", "<init>", "()V"⟩) s0 ∧ va_Nw (.declares ⟨"java/lang/Throwable", "<init>", "()V"⟩) s0 ∧ va_Nw (.castable X X) s0 ∧
  (Cond.laysStatic "java/lang/Throwable" "UNASSIGNED_STACK" "[Ljava/lang/StackTraceElement;").before #[] s0 = true ∧ (Cond.laysStatic "java/lang/Throwable" "SUPPRESSED_SENTINEL" "Ljava/util/List;").before #[] s0 = true ∧
  (Cond.isRef (.static "java/lang/Throwable" "UNASSIGNED_STACK" "[Ljava/lang/StackTraceElement;")).before #[] s0 = true ∧ (Cond.isRef (.static "java/lang/Throwable" "SUPPRESSED_SENTINEL" "Ljava/util/List;")).before #[] s0 = true
end OT
theorem ob_ns {s : State} {D : va_G} {cl : List vw_C} {ws : va_W} {H : Heap} {locs : List Loc} (hP : va_P D cl ws s.heap) (hS : va_S (va_A ws s.heap.size) s.heap H locs) : ∀ x ∈ locs, ∀ cell, s.heap[x.base]? = some cell → cell.vm.isStatics = false := by
  intro x hx cell hc
  rcases hS.2.2 x hx with ⟨k, e, hk⟩ | hge
  · have h := hP k (x.base, e) hk
    cases e with
    | inl a =>
      have h1 : s.heap[x.base]? = some (vp_cell a.1 a.2) := h
      rw [hc] at h1
      cases h1
      obtain ⟨c0, n0, f0⟩ := a
      rcases f0 with f0 | f0 | f0 | f0 | f0 <;> rfl
    | inr o =>
      obtain ⟨r, -, c2, h2, -, h4, -⟩ := h
      rw [hc] at h2
      cases h2
      rw [h4]
      rfl
  · exact absurd (Array.getElem?_eq_some_iff.mp hc).1 (Nat.not_lt.mpr hge)
theorem tr_off {l : Launch} {e : Env} (h : l.admits e) (hl : l.stackTraces = false) : e.platform.stackTraces = false := by
  rw [h.platform]
  exact hl
theorem Old.rf (s : State) : Old s s := ⟨State.WarmedH.refl s, Nat.le_refl _, fun _ _ => rfl⟩
theorem emp_tab {c : Code} (h : c.exceptionTable.isEmpty = true) : c.exceptionTable.toList = [] := by
  have h1 : c.exceptionTable = #[] := by simpa using h
  rw [h1]
