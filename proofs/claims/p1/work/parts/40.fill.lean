set_option maxHeartbeats 4000000 in
set_option maxRecDepth 100000 in
theorem lp_fill {p : Program} {l : Launch} {e : Env} {R : Room} {s : State} {m : MethodId} {args : Array Value} {below : List Frame} {meth : Method} {c : Code} {cells slots : Nat} {Q : State → Prop} {D : va_G} {cI cZ cC cJ : ClassId} {A : Nat → Prop} {a : Nat} {v : Int32} (hx : p.tables.exec = Jvm.exec) (hb : c.code = cJ7_fill) (hml : c.maxLocals = 4) (hgt : ∀ w ∈ GT, w.before args s = true) (hown : s.vm.findClass RJ7 = some m.cls) (hK : va_K D vwCl [(cI, .int), (cZ, .boolean), (cC, .char), (cJ, .long)] s) (hA : ∀ q : Nat, s.heap.size ≤ q → A q) (kk : ∀ (f : Nat → Int32) (H : Heap) (locs : List Loc) (ls : Array Slot), (∀ j, j < 26 → f j = v) → lv_has ls 4 [(2, .int ((nI 26))), (3, .int 26), (0, .ref a), (1, .int v)] → va_P D vwCl [(a, .inl (cI, 26, .inl f))] H → va_D A [(a, .inl (cI, 26, .inl f))] → va_S A s.heap H locs → W p l e R s m args below meth c H locs cells slots Q (F0 m 20 ls [])) : ∀ (k i : Nat) (f : Nat → Int32) (H : Heap) (locs : List Loc) (ls : Array Slot), i + k = 26 → (∀ j, j < i → f j = v) → lv_has ls 4 [(2, .int ((nI i))), (3, .int 26), (0, .ref a), (1, .int v)] → va_P D vwCl [(a, .inl (cI, 26, .inl f))] H → va_D A [(a, .inl (cI, 26, .inl f))] → va_S A s.heap H locs → W p l e R s m args below meth c H locs cells slots Q (F0 m 5 ls []) := by
  intro k
  induction k with
  | zero =>
    intro i f H locs ls hi hinv hl hP hD hS
    obtain rfl : i = 26 := by omega
    refine lv_iload_n hx hb dJ7_fill_5 rfl (lv_at hl 0 rfl) ?_
    refine lv_iload_n hx hb dJ7_fill_6 rfl (lv_at hl 1 rfl) ?_
    refine lv_icmp_ge hx hb dJ7_fill_7 (tgt := 20) rfl (fun _ => ?_) (fun h_7 => absurd (by decide) h_7)
    exact kk f H locs ls hinv hl hP hD hS
  | succ k ih =>
    intro i f H locs ls hi hinv hl hP hD hS
    refine lv_iload_n hx hb dJ7_fill_5 rfl (lv_at hl 0 rfl) ?_
    refine lv_iload_n hx hb dJ7_fill_6 rfl (lv_at hl 1 rfl) ?_
    refine lv_icmp_ge hx hb dJ7_fill_7 (tgt := 20) rfl (fun h_7 => absurd h_7 (nI_ge (a := i) (b := 26) (by omega) (by omega))) (fun _ => ?_)
    refine lv_aload_n hx hb dJ7_fill_10 rfl (lv_at hl 2 rfl) ?_
    refine lv_iload_n hx hb dJ7_fill_11 rfl (lv_at hl 0 rfl) ?_
    refine lv_iload_n hx hb dJ7_fill_12 rfl (lv_at hl 3 rfl) ?_
    refine va_iast hx hb hK hP hD hS 0 0 rfl rfl (vp_in_nI (by omega) (by omega)) dJ7_fill_13 (fun H locs hP hD hS => ?_)
    have hP : va_P D vwCl [(a, .inl (cI, 26, .inl (upd f ((nI i) : Int32).toNatClampNeg v)))] H := hP
    have hD : va_D A [(a, .inl (cI, 26, .inl (upd f ((nI i) : Int32).toNatClampNeg v)))] := hD
    refine lv_iinc (v := (nI (i + 1))) hx hb dJ7_fill_14 hl (k := 0) rfl (nI_1 i) (Nat.le_of_ble_eq_true rfl) (lv' := [(2, .int ((nI (i + 1)))), (3, .int 26), (0, .ref a), (1, .int v)]) rfl (fun ls hl => ?_)
    refine lv_goto hx hb dJ7_fill_17 (tgt := 5) rfl ?_
    have hl := lv_sub hl [0, 1, 2, 3] (l' := [(2, .int ((nI (i + 1)))), (3, .int 26), (0, .ref a), (1, .int v)]) rfl
    exact ih (i + 1) (upd f ((nI i) : Int32).toNatClampNeg v) H locs ls (by omega) (fill_inv hinv (by omega)) hl hP hD hS
set_option maxHeartbeats 4000000 in
set_option maxRecDepth 100000 in
theorem j_fill (l : Launch) (D : va_G) (cI cZ cC cJ : ClassId) (a : Nat) (f : Nat → Int32) (v : Int32) (sz : Nat) : Met l yJ7_fill wsJ7_fill ({ frames := 0, cells := 0, slots := 0, locals := 0 }) (va_Pc [.ref a, .int v] (fun U => U.heap.size = sz ∧ va_P D vwCl [(a, .inl (cI, 26, .inl f))] U.heap ∧ va_K D vwCl [(cI, .int), (cZ, .boolean), (cC, .char), (cJ, .long)] U ∧ va_D (fun _ => True) [(a, .inl (cI, 26, .inl f))])) (va_Qv (fun (_ : Unit) => True) (fun _ t => ∃ (g : Nat → Int32), (∀ j, j < 26 → g j = v) ∧ va_P D vwCl [(a, .inl (cI, 26, .inl g))] t.heap ∧ va_D (va_A [(a, .inl (cI, 26, .inl f))] sz) [(a, .inl (cI, 26, .inl g))]) (va_A [(a, .inl (cI, 26, .inl f))] sz)) 0 0 (va_A [(a, .inl (cI, 26, .inl f))] sz) := by
  refine Met.ofW (cc := cJ7_fill) (maxL := 4) (ret := none) (by decide) rfl ?_
  intro p e s m args below meth c s₁ B hml hv
  obtain ⟨rfl, hsz, hP, hK, hD0⟩ := hv
  have hx := B.exec
  have hb := B.bytes
  have hr := B.returns
  have hgt := fun w (h : w ∈ GT) => atoms_spec (ws := wsJ7_fill) B.pre w (List.mem_cons_of_mem _ h)
  have hown : s.vm.findClass RJ7 = some m.cls := findClass_of_methodNamed B.named
  have hlocks := B.notSynchronized
  subst hsz
  have hD := hD0.self (sz := s.heap.size)
  generalize hAe : va_A [(a, .inl (cI, 26, .inl f))] s.heap.size = A at hD ⊢
  have hA : ∀ q : Nat, s.heap.size ≤ q → A q := fun q h => by rw [← hAe]; exact Or.inr h
  have hS : va_S A s.heap s.heap [] := va_S.rf
  have hP : va_P D vwCl [(a, .inl (cI, 26, .inl f))] s.heap := hP
  have hl := lv_entry ([.ref a, .int v]) (n := 4) (Nat.le_of_ble_eq_true rfl)
  rw [lg_entry_eq]
  generalize (lg_sl ([.ref a, .int v]) ++ List.replicate (4 - (lg_sl ([.ref a, .int v])).length) Slot.unset).toArray = ls at hl ⊢
  have hl : lv_has ls 4 [(0, .ref a), (1, .int v)] := hl
  refine lv_iconst (v := 0) hx hb dJ7_fill_0 (by decide) ?_
  refine lv_istore_n hx hb dJ7_fill_1 rfl hl (Nat.le_of_ble_eq_true rfl) (lv' := [(2, .int 0), (0, .ref a), (1, .int v)]) rfl (fun ls hl => ?_)
  refine lv_aload_n hx hb dJ7_fill_2 rfl (lv_at hl 1 rfl) ?_
  refine va_alen (v := 26) hx hb hK hP 0 0 rfl rfl rfl dJ7_fill_3 ?_
  refine lv_istore_n hx hb dJ7_fill_4 rfl hl (Nat.le_of_ble_eq_true rfl) (lv' := [(3, .int 26), (2, .int 0), (0, .ref a), (1, .int v)]) rfl (fun ls hl => ?_)
  have hl := lv_sub hl [1, 0, 2, 3] (l' := [(2, .int ((nI 0))), (3, .int 26), (0, .ref a), (1, .int v)]) rfl
  refine lp_fill hx hb hml hgt hown hK hA (fun f H locs ls hinv hl hP hD hS => ?_) 26 0 f s.heap _ ls (by omega) lt_0 hl hP hD hS
  have hP9 := hP.sub (ws' := [(a, .inl (cI, 26, .inl f))]) [0] rfl
  have hD9 := hD.sub (ws' := [(a, .inl (cI, 26, .inl f))]) [0] (by decide) rfl
  refine W.widen (k := 0) (n := 0) (Nat.le_of_ble_eq_true rfl) (Nat.le_of_ble_eq_true rfl) ?_
  exact W.vret hx hb hr (fun t ht hW => ⟨⟨(), rfl, trivial, f, hinv, by rw [ht]; exact hP9, hD9⟩, hS.F ht⟩) hS.2.2 dJ7_fill_20
