set_option maxHeartbeats 4000000 in
set_option maxRecDepth 100000 in
theorem s_coder (l : Launch) (D : va_G) (cI cZ cC cJ : ClassId) (s0 : State) (qs qv : Nat) (fb : Nat → Value) (hSt : StrF s0 qs qv fb) (hNw : NwF s0) (cA : ClassId) (hAg : AoG s0 cA cI)  (sz : Nat) : Met l yJ0_coder wsJ0_coder ({ frames := 0, cells := 0, slots := 0, locals := 0 }) (va_Pc [.ref qs] (fun U => U.heap.size = sz ∧ va_P D vwCl [] U.heap ∧ va_K D vwCl [(cI, .int), (cZ, .boolean), (cC, .char), (cJ, .long)] U ∧ va_D (fun q => s0.heap.size ≤ q) [] ∧ Old s0 U)) (va_Qi (fun (r : Int32) (_ : Unit) => r = 0) (fun _ _ => True) (va_A [] sz)) 0 0 (va_A [] sz) := by
  refine Met.ofW (cc := cJ0_coder) (maxL := 1) (ret := (some .byte)) (by decide) rfl ?_
  intro p e s m args below meth c s₁ B hml hv
  obtain ⟨rfl, hsz, hP, hK, hD0, hO⟩ := hv
  have hx := B.exec
  have hb := B.bytes
  have hr := B.returns
  have hgt := fun w (h : w ∈ GT) => atoms_spec (ws := wsJ0_coder) B.pre w (List.mem_cons_of_mem _ h)
  have hown : s.vm.findClass RJ0 = some m.cls := findClass_of_methodNamed B.named
  have hlocks := B.notSynchronized
  subst hsz
  have hD := hD0.self (sz := s.heap.size)
  generalize hAe : va_A [] s.heap.size = A at hD ⊢
  have hA : ∀ q : Nat, s.heap.size ≤ q → A q := fun q h => by rw [← hAe]; exact Or.inr h
  have hAO : ∀ q : Nat, A q → s0.heap.size ≤ q := fun q h => by rw [← hAe] at h; exact old_in hD0 hO h
  have hS : va_S A s.heap s.heap [] := va_S.rf
  have hP : va_P D vwCl [] s.heap := hP
  have hl := lv_entry ([.ref qs]) (n := 1) (Nat.le_of_ble_eq_true rfl)
  rw [lg_entry_eq]
  generalize (lg_sl ([.ref qs]) ++ List.replicate (1 - (lg_sl ([.ref qs])).length) Slot.unset).toArray = ls at hl ⊢
  have hl : lv_has ls 1 [(0, .ref qs)] := hl
  refine va_gets hx hb (hSt.z hO hAO) hS hown (hgt _ wd_0_235) (fun _ h => h) dJ0_coder_0 ?_
  refine lv_if_eq hx hb dJ0_coder_3 (tgt := 13) rfl (fun h_3 => absurd h_3 (by decide)) (fun _ => ?_)
  refine lv_aload_n hx hb dJ0_coder_6 rfl (lv_at hl 0 rfl) ?_
  refine vk_getf hx hb (hSt.c hO hAO) hS hown (hgt _ wd_7_1) (fun _ h => h) dJ0_coder_7 ?_
  refine lv_goto hx hb dJ0_coder_10 (tgt := 14) rfl ?_
  refine W.widen (k := 0) (n := 0) (Nat.le_of_ble_eq_true rfl) (Nat.le_of_ble_eq_true rfl) ?_
  exact W.zret (v := 0) (ty := .byte) hx hb hr rfl (fun t ht hW => ⟨⟨0, (), rfl, rfl, trivial⟩, hS.F ht⟩) hS.2.2 dJ0_coder_14
set_option maxHeartbeats 4000000 in
set_option maxRecDepth 100000 in
theorem s_length (l : Launch) (D : va_G) (cI cZ cC cJ : ClassId) (s0 : State) (qs qv : Nat) (fb : Nat → Value) (hSt : StrF s0 qs qv fb) (hNw : NwF s0) (cA : ClassId) (hAg : AoG s0 cA cI)  (sz : Nat) : Met l yJ0_length wsJ0_length ({ frames := 1, cells := 0, slots := 0, locals := 20 }) (va_Pc [.ref qs] (fun U => U.heap.size = sz ∧ va_P D vwCl [] U.heap ∧ va_K D vwCl [(cI, .int), (cZ, .boolean), (cC, .char), (cJ, .long)] U ∧ va_D (fun q => s0.heap.size ≤ q) [] ∧ Old s0 U)) (va_Qi (fun (r : Int32) (_ : Unit) => r = 7) (fun _ _ => True) (va_A [] sz)) 0 0 (va_A [] sz) := by
  refine Met.ofW (cc := cJ0_length) (maxL := 1) (ret := (some .int)) (by decide) rfl ?_
  intro p e s m args below meth c s₁ B hml hv
  obtain ⟨rfl, hsz, hP, hK, hD0, hO⟩ := hv
  have hx := B.exec
  have hb := B.bytes
  have hr := B.returns
  have hgt := fun w (h : w ∈ GT) => atoms_spec (ws := wsJ0_length) B.pre w (List.mem_cons_of_mem _ h)
  have hown : s.vm.findClass RJ0 = some m.cls := findClass_of_methodNamed B.named
  have hlocks := B.notSynchronized
  subst hsz
  have hD := hD0.self (sz := s.heap.size)
  generalize hAe : va_A [] s.heap.size = A at hD ⊢
  have hA : ∀ q : Nat, s.heap.size ≤ q → A q := fun q h => by rw [← hAe]; exact Or.inr h
  have hAO : ∀ q : Nat, A q → s0.heap.size ≤ q := fun q h => by rw [← hAe] at h; exact old_in hD0 hO h
  have hS : va_S A s.heap s.heap [] := va_S.rf
  have hP : va_P D vwCl [] s.heap := hP
  have hl := lv_entry ([.ref qs]) (n := 1) (Nat.le_of_ble_eq_true rfl)
  rw [lg_entry_eq]
  generalize (lg_sl ([.ref qs]) ++ List.replicate (1 - (lg_sl ([.ref qs])).length) Slot.unset).toArray = ls at hl ⊢
  have hl : lv_has ls 1 [(0, .ref qs)] := hl
  refine lv_aload_n hx hb dJ0_length_0 rfl (lv_at hl 0 rfl) ?_
  refine vk_getf hx hb (hSt.v hO hAO) hS hown (hgt _ wd_7_0) (fun _ h => h) dJ0_length_1 ?_
  refine va_tlen (v := 7) hx hb (hSt.t hO hAO) hS (by decide) dJ0_length_4 ?_
  refine lv_aload_n hx hb dJ0_length_5 rfl (lv_at hl 0 rfl) ?_
  have hFc := va_free (wc := []) hD hS hA [] rfl
  refine va_calli (va_runV (As := []) (rest := [.int 7]) ⟨hx, hb, hml, hown, hgt⟩ (s_coder l D cI cZ cC cJ s0 qs qv fb hSt hNw cA hAg s.heap.size) (cwV 0 hgt (gV wd_0_231 wd_0_232 wd_0_233 wd_0_7 wd_0_234) rfl rfl rfl (by decide +kernel) ⟨Nat.le_of_ble_eq_true rfl, Nat.le_of_ble_eq_true rfl⟩) ⟨fun a U g mk q => by obtain ⟨q0, q1, qP, qK, qD, qO⟩ := q; exact ⟨q0, q1, qP, va_K.moved (u := U) (U := U.calling g mk a) (Vm.Alike.refl U.vm) qK, qD, qO⟩, hSt.recv hO hAO hS, fun U hU hW => ⟨rfl, by rw [hU], fun k q h => by simp at h, va_K.moved hW.alike hK, ⟨fun i j p q h => by simp at h, fun k q h => by simp at h⟩, Old.step hO hAO hS hU hW⟩⟩ rfl rfl hl.1 rfl (lv_room (Nat.le_of_ble_eq_true rfl)) dJ0_length_6 ⟨Nat.le_of_ble_eq_true rfl, Nat.le_of_ble_eq_true rfl⟩) hS (fun q _ h => hFc q h) hFc (fun r u t H1 locs ht hvm hw hB hz1 hk1 hS => ?_)
  have hP1 : va_P D vwCl [] H1 := fun k q h => by simp at h
  have hD1 : va_D (va_A [] s.heap.size) [] := ⟨fun i j p q h => by simp at h, fun k q h => by simp at h⟩
  obtain ⟨hP, hD⟩ := va_join (wr := []) (w1 := []) hP hD [] [] rfl rfl (by decide) (by decide) hk1 hFc hP1 hD1
  generalize H1 = H at hP hS ⊢
  have hP : va_P D vwCl [] H := hP
  have hD : va_D A [] := hD
  obtain rfl : r = 0 := hw
  refine lv_ishr hx hb dJ0_length_9 ?_
  refine lv_topi (fun z_9 e_9 => ?_)
  obtain rfl : z_9 = 7 := e_9.trans (by decide)
  refine W.widen (k := 0) (n := 0) (Nat.le_of_ble_eq_true rfl) (Nat.le_of_ble_eq_true rfl) ?_
  exact W.iret (v := 7) hx hb hr (fun t ht hW => ⟨⟨7, (), rfl, rfl, trivial⟩, hS.F ht⟩) hS.2.2 dJ0_length_10
set_option maxHeartbeats 4000000 in
set_option maxRecDepth 100000 in
theorem lp_fill {p : Program} {l : Launch} {e : Env} {R : Room} {s : State} {m : MethodId} {args : Array Value} {below : List Frame} {meth : Method} {c : Code} {cells slots : Nat} {Q : State → Prop} {D : va_G} {cI cZ cC cJ : ClassId} {A : Nat → Prop} {a : Nat} {v : Int32} (hx : p.tables.exec = Jvm.exec) (hb : c.code = cJ7_fill_IIV) (hml : c.maxLocals = 4) (hgt : ∀ w ∈ GT, w.before args s = true) (hown : s.vm.findClass RJ7 = some m.cls) (hK : va_K D vwCl [(cI, .int), (cZ, .boolean), (cC, .char), (cJ, .long)] s) (hA : ∀ q : Nat, s.heap.size ≤ q → A q) (kk : ∀ (f : Nat → Int32) (H : Heap) (locs : List Loc) (ls : Array Slot), (∀ j, j < 26 → f j = v) → lv_has ls 4 [(2, .int ((nI 26))), (3, .int 26), (0, .ref a), (1, .int v)] → va_P D vwCl [(a, .inl (cI, 26, .inl f))] H → va_D A [(a, .inl (cI, 26, .inl f))] → va_S A s.heap H locs → W p l e R s m args below meth c H locs cells slots Q (F0 m 20 ls [])) : ∀ (k i : Nat) (f : Nat → Int32) (H : Heap) (locs : List Loc) (ls : Array Slot), i + k = 26 → (∀ j, j < i → f j = v) → lv_has ls 4 [(2, .int ((nI i))), (3, .int 26), (0, .ref a), (1, .int v)] → va_P D vwCl [(a, .inl (cI, 26, .inl f))] H → va_D A [(a, .inl (cI, 26, .inl f))] → va_S A s.heap H locs → W p l e R s m args below meth c H locs cells slots Q (F0 m 5 ls []) := by
  intro k
  induction k with
  | zero =>
    intro i f H locs ls hi hinv hl hP hD hS
    obtain rfl : i = 26 := by omega
    refine lv_iload_n hx hb dJ7_fill_IIV_5 rfl (lv_at hl 0 rfl) ?_
    refine lv_iload_n hx hb dJ7_fill_IIV_6 rfl (lv_at hl 1 rfl) ?_
    refine lv_icmp_ge hx hb dJ7_fill_IIV_7 (tgt := 20) rfl (fun _ => ?_) (fun h_7 => absurd (by decide) h_7)
    exact kk f H locs ls hinv hl hP hD hS
  | succ k ih =>
    intro i f H locs ls hi hinv hl hP hD hS
    refine lv_iload_n hx hb dJ7_fill_IIV_5 rfl (lv_at hl 0 rfl) ?_
    refine lv_iload_n hx hb dJ7_fill_IIV_6 rfl (lv_at hl 1 rfl) ?_
    refine lv_icmp_ge hx hb dJ7_fill_IIV_7 (tgt := 20) rfl (fun h_7 => absurd h_7 (nI_ge (a := i) (b := 26) (by omega) (by omega))) (fun _ => ?_)
    refine lv_aload_n hx hb dJ7_fill_IIV_10 rfl (lv_at hl 2 rfl) ?_
    refine lv_iload_n hx hb dJ7_fill_IIV_11 rfl (lv_at hl 0 rfl) ?_
    refine lv_iload_n hx hb dJ7_fill_IIV_12 rfl (lv_at hl 3 rfl) ?_
    refine va_iast hx hb hK hP hD hS 0 0 rfl rfl (vp_in_nI (by omega) (by omega)) dJ7_fill_IIV_13 (fun H locs hP hD hS => ?_)
    have hP : va_P D vwCl [(a, .inl (cI, 26, .inl (upd f ((nI i) : Int32).toNatClampNeg v)))] H := hP
    have hD : va_D A [(a, .inl (cI, 26, .inl (upd f ((nI i) : Int32).toNatClampNeg v)))] := hD
    refine lv_iinc (v := (nI (i + 1))) hx hb dJ7_fill_IIV_14 hl (k := 0) rfl (nI_1 i) (Nat.le_of_ble_eq_true rfl) (lv' := [(2, .int ((nI (i + 1)))), (3, .int 26), (0, .ref a), (1, .int v)]) rfl (fun ls hl => ?_)
    refine lv_goto hx hb dJ7_fill_IIV_17 (tgt := 5) rfl ?_
    have hl := lv_sub hl [0, 1, 2, 3] (l' := [(2, .int ((nI (i + 1)))), (3, .int 26), (0, .ref a), (1, .int v)]) rfl
    exact ih (i + 1) (upd f ((nI i) : Int32).toNatClampNeg v) H locs ls (by omega) (fill_inv hinv (by omega)) hl hP hD hS
set_option maxHeartbeats 4000000 in
set_option maxRecDepth 100000 in
theorem j_fill (l : Launch) (D : va_G) (cI cZ cC cJ : ClassId) (a : Nat) (f : Nat → Int32) (v : Int32) (sz : Nat) : Met l yJ7_fill_IIV wsJ7_fill_IIV ({ frames := 0, cells := 0, slots := 0, locals := 0 }) (va_Pc [.ref a, .int v] (fun U => U.heap.size = sz ∧ va_P D vwCl [(a, .inl (cI, 26, .inl f))] U.heap ∧ va_K D vwCl [(cI, .int), (cZ, .boolean), (cC, .char), (cJ, .long)] U ∧ va_D (fun _ => True) [(a, .inl (cI, 26, .inl f))])) (va_Qv (fun (_ : Unit) => True) (fun _ t => ∃ (g : Nat → Int32), (∀ j, j < 26 → g j = v) ∧ va_P D vwCl [(a, .inl (cI, 26, .inl g))] t.heap ∧ va_D (va_A [(a, .inl (cI, 26, .inl f))] sz) [(a, .inl (cI, 26, .inl g))]) (va_A [(a, .inl (cI, 26, .inl f))] sz)) 0 0 (va_A [(a, .inl (cI, 26, .inl f))] sz) := by
  refine Met.ofW (cc := cJ7_fill_IIV) (maxL := 4) (ret := none) (by decide) rfl ?_
  intro p e s m args below meth c s₁ B hml hv
  obtain ⟨rfl, hsz, hP, hK, hD0⟩ := hv
  have hx := B.exec
  have hb := B.bytes
  have hr := B.returns
  have hgt := fun w (h : w ∈ GT) => atoms_spec (ws := wsJ7_fill_IIV) B.pre w (List.mem_cons_of_mem _ h)
  have hown : s.vm.findClass RJ7 = some m.cls := findClass_of_methodNamed B.named
  have hlocks := B.notSynchronized
  subst hsz
  have hD := hD0.self (sz := s.heap.size)
  generalize hAe : va_A [(a, .inl (cI, 26, .inl f))] s.heap.size = A at hD ⊢
  have hA : ∀ q : Nat, s.heap.size ≤ q → A q := fun q h => by rw [← hAe]; exact Or.inr h
  have hS : va_S A s.heap s.heap [] := va_S.rf
  have hP : va_P D vwCl [(a, .inl (cI, 26, .inl f))] s.heap := hP
  have hl := lv_entry ([.ref a, .int v]) (n := 4) (Nat.le_of_ble_eq_true rfl)
  rw [lg_entry_eq]
  generalize (lg_sl ([.ref a, .int v]) ++ List.replicate (4 - (lg_sl ([.ref a, .int v])).length) Slot.unset).toArray = ls at hl ⊢
  have hl : lv_has ls 4 [(0, .ref a), (1, .int v)] := hl
  refine lv_iconst (v := 0) hx hb dJ7_fill_IIV_0 (by decide) ?_
  refine lv_istore_n hx hb dJ7_fill_IIV_1 rfl hl (Nat.le_of_ble_eq_true rfl) (lv' := [(2, .int 0), (0, .ref a), (1, .int v)]) rfl (fun ls hl => ?_)
  refine lv_aload_n hx hb dJ7_fill_IIV_2 rfl (lv_at hl 1 rfl) ?_
  refine va_alen (v := 26) hx hb hK hP 0 0 rfl rfl rfl dJ7_fill_IIV_3 ?_
  refine lv_istore_n hx hb dJ7_fill_IIV_4 rfl hl (Nat.le_of_ble_eq_true rfl) (lv' := [(3, .int 26), (2, .int 0), (0, .ref a), (1, .int v)]) rfl (fun ls hl => ?_)
  have hl := lv_sub hl [1, 0, 2, 3] (l' := [(2, .int ((nI 0))), (3, .int 26), (0, .ref a), (1, .int v)]) rfl
  refine lp_fill hx hb hml hgt hown hK hA (fun f H locs ls hinv hl hP hD hS => ?_) 26 0 f s.heap _ ls (by omega) lt_0 hl hP hD hS
  have hP9 := hP.sub (ws' := [(a, .inl (cI, 26, .inl f))]) [0] rfl
  have hD9 := hD.sub (ws' := [(a, .inl (cI, 26, .inl f))]) [0] (by decide) rfl
  refine W.widen (k := 0) (n := 0) (Nat.le_of_ble_eq_true rfl) (Nat.le_of_ble_eq_true rfl) ?_
  exact W.vret hx hb hr (fun t ht hW => ⟨⟨(), rfl, trivial, f, hinv, by rw [ht]; exact hP9, hD9⟩, hS.F ht⟩) hS.2.2 dJ7_fill_IIV_20
set_option maxHeartbeats 4000000 in
set_option maxRecDepth 100000 in
theorem k_Rules (l : Launch) (D : va_G) (cI cZ cC cJ : ClassId) (h : Nat) (sz : Nat) : Met l yX11_init wsX11_init ({ frames := 1, cells := 6, slots := 72, locals := 12 }) (va_Pc [.ref h] (fun U => U.heap.size = sz ∧ va_P D vwCl [(h, .inr (11, [.int 0, .null, .null, .null, .null, .null, .null]))] U.heap ∧ va_K D vwCl [(cI, .int), (cZ, .boolean), (cC, .char), (cJ, .long)] U ∧ va_D (fun _ => True) [(h, .inr (11, [.int 0, .null, .null, .null, .null, .null, .null]))])) (va_Qv (fun (_ : Unit) => True) (fun _ t => ∃ (r : Nat → Nat), va_P D vwCl [(h, .inr (11, [.int 0, .ref (r 1), .ref (r 2), .ref (r 3), .ref (r 4), .ref (r 5), .ref (r 6)])), ((r 1), .inl (cI, 12, .inl (fun _ => 0))), ((r 2), .inl (cI, 12, .inl (fun _ => 0))), ((r 3), .inl (cI, 12, .inl (fun _ => 0))), ((r 4), .inl (cI, 12, .inl (fun _ => 0))), ((r 5), .inl (cI, 12, .inl (fun _ => 0))), ((r 6), .inl (cI, 12, .inl (fun _ => 0)))] t.heap ∧ va_D (va_A [(h, .inr (11, [.int 0, .null, .null, .null, .null, .null, .null]))] sz) [(h, .inr (11, [.int 0, .ref (r 1), .ref (r 2), .ref (r 3), .ref (r 4), .ref (r 5), .ref (r 6)])), ((r 1), .inl (cI, 12, .inl (fun _ => 0))), ((r 2), .inl (cI, 12, .inl (fun _ => 0))), ((r 3), .inl (cI, 12, .inl (fun _ => 0))), ((r 4), .inl (cI, 12, .inl (fun _ => 0))), ((r 5), .inl (cI, 12, .inl (fun _ => 0))), ((r 6), .inl (cI, 12, .inl (fun _ => 0)))]) (va_A [(h, .inr (11, [.int 0, .null, .null, .null, .null, .null, .null]))] sz)) 6 72 (va_A [(h, .inr (11, [.int 0, .null, .null, .null, .null, .null, .null]))] sz) := by
  refine Met.ofW (cc := cX11_init) (maxL := 1) (ret := none) (by decide) rfl ?_
  intro p e s m args below meth c s₁ B hml hv
  obtain ⟨rfl, hsz, hP, hK, hD0⟩ := hv
  have hx := B.exec
  have hb := B.bytes
  have hr := B.returns
  have hgt := fun w (h : w ∈ GT) => atoms_spec (ws := wsX11_init) B.pre w (List.mem_cons_of_mem _ h)
  have hown : s.vm.findClass RX11 = some m.cls := findClass_of_methodNamed B.named
  have hlocks := B.notSynchronized
  have hin : meth.name = "<init>" := (name_of_methodNamed B.named B.method).1
  subst hsz
  have hD := hD0.self (sz := s.heap.size)
  generalize hAe : va_A [(h, .inr (11, [.int 0, .null, .null, .null, .null, .null, .null]))] s.heap.size = A at hD ⊢
  have hA : ∀ q : Nat, s.heap.size ≤ q → A q := fun q h => by rw [← hAe]; exact Or.inr h
  have hS : va_S A s.heap s.heap [] := va_S.rf
  have hP : va_P D vwCl [(h, .inr (11, [.int 0, .null, .null, .null, .null, .null, .null]))] s.heap := hP
  have hl := lv_entry ([.ref h]) (n := 1) (Nat.le_of_ble_eq_true rfl)
  rw [lg_entry_eq]
  generalize (lg_sl ([.ref h]) ++ List.replicate (1 - (lg_sl ([.ref h])).length) Slot.unset).toArray = ls at hl ⊢
  have hl : lv_has ls 1 [(0, .ref h)] := hl
  refine lv_aload_n hx hb dX11_init_0 rfl (lv_at hl 0 rfl) ?_
  refine W.objInit hx hb hown (hgt _ wd_0_48) (hgt _ wd_0_35) (hgt _ wd_0_36) rfl (by rw [hml]; exact hl.1) rfl dX11_init_1 (Nat.le_of_ble_eq_true rfl) (Nat.le_of_ble_eq_true rfl) ?_
  refine W.eq (g2 := F0 m 4 ls []) rfl ?_
  refine lv_aload_n hx hb dX11_init_4 rfl (lv_at hl 0 rfl) ?_
  refine lv_bipush (v := 12) hx hb dX11_init_5 (by decide) ?_
  refine nw_a (atype := .int) (ty := .int) (t0 := 0) (a0 := (12, .inl (fun _ => 0))) hx hb (hgt _ wd_0_92) rfl hK rfl hP hD hS hA (fun _ => rfl) (by decide) rfl (by decide) (Nat.le_of_ble_eq_true rfl) (Nat.le_of_ble_eq_true rfl) dX11_init_7 (fun q1 H hP hD hS => ?_)
  have hP : va_P D vwCl [(h, .inr (11, [.int 0, .null, .null, .null, .null, .null, .null])), (q1, .inl (cI, 12, .inl (fun _ => 0)))] H := hP
  have hD : va_D A [(h, .inr (11, [.int 0, .null, .null, .null, .null, .null, .null])), (q1, .inl (cI, 12, .inl (fun _ => 0)))] := hD
  refine va_putF (D := D) (ci := 11) (v := .ref q1) (ty := .array .int) (C := RX11) (T := TX11) (N := 7) hx hb hgt iwX11 tyX11 tyX11_ok nmX11 hown hK hP hD hS 0 rfl rfl 1 (Nat.le_of_ble_eq_true rfl) (hgt _ wd_0_55) (fun _ h9 => h9) rfl hin rfl (by decide +kernel) rfl rfl (Nat.le_of_ble_eq_true rfl) dX11_init_9 (fun H locs hP hD hS => ?_)
  have hP : va_P D vwCl [(h, .inr (11, [.int 0, .ref q1, .null, .null, .null, .null, .null])), (q1, .inl (cI, 12, .inl (fun _ => 0)))] H := hP
  have hD : va_D A [(h, .inr (11, [.int 0, .ref q1, .null, .null, .null, .null, .null])), (q1, .inl (cI, 12, .inl (fun _ => 0)))] := hD
  refine lv_aload_n hx hb dX11_init_12 rfl (lv_at hl 0 rfl) ?_
  refine lv_bipush (v := 12) hx hb dX11_init_13 (by decide) ?_
  refine nw_a (atype := .int) (ty := .int) (t0 := 0) (a0 := (12, .inl (fun _ => 0))) hx hb (hgt _ wd_0_92) rfl hK rfl hP hD hS hA (fun _ => rfl) (by decide) rfl (by decide) (Nat.le_of_ble_eq_true rfl) (Nat.le_of_ble_eq_true rfl) dX11_init_15 (fun q2 H hP hD hS => ?_)
  have hP : va_P D vwCl [(h, .inr (11, [.int 0, .ref q1, .null, .null, .null, .null, .null])), (q1, .inl (cI, 12, .inl (fun _ => 0))), (q2, .inl (cI, 12, .inl (fun _ => 0)))] H := hP
  have hD : va_D A [(h, .inr (11, [.int 0, .ref q1, .null, .null, .null, .null, .null])), (q1, .inl (cI, 12, .inl (fun _ => 0))), (q2, .inl (cI, 12, .inl (fun _ => 0)))] := hD
  refine va_putF (D := D) (ci := 11) (v := .ref q2) (ty := .array .int) (C := RX11) (T := TX11) (N := 7) hx hb hgt iwX11 tyX11 tyX11_ok nmX11 hown hK hP hD hS 0 rfl rfl 2 (Nat.le_of_ble_eq_true rfl) (hgt _ wd_0_59) (fun _ h9 => h9) rfl hin rfl (by decide +kernel) rfl rfl (Nat.le_of_ble_eq_true rfl) dX11_init_17 (fun H locs hP hD hS => ?_)
  have hP : va_P D vwCl [(h, .inr (11, [.int 0, .ref q1, .ref q2, .null, .null, .null, .null])), (q1, .inl (cI, 12, .inl (fun _ => 0))), (q2, .inl (cI, 12, .inl (fun _ => 0)))] H := hP
  have hD : va_D A [(h, .inr (11, [.int 0, .ref q1, .ref q2, .null, .null, .null, .null])), (q1, .inl (cI, 12, .inl (fun _ => 0))), (q2, .inl (cI, 12, .inl (fun _ => 0)))] := hD
  refine lv_aload_n hx hb dX11_init_20 rfl (lv_at hl 0 rfl) ?_
  refine lv_bipush (v := 12) hx hb dX11_init_21 (by decide) ?_
  refine nw_a (atype := .int) (ty := .int) (t0 := 0) (a0 := (12, .inl (fun _ => 0))) hx hb (hgt _ wd_0_92) rfl hK rfl hP hD hS hA (fun _ => rfl) (by decide) rfl (by decide) (Nat.le_of_ble_eq_true rfl) (Nat.le_of_ble_eq_true rfl) dX11_init_23 (fun q3 H hP hD hS => ?_)
  have hP : va_P D vwCl [(h, .inr (11, [.int 0, .ref q1, .ref q2, .null, .null, .null, .null])), (q1, .inl (cI, 12, .inl (fun _ => 0))), (q2, .inl (cI, 12, .inl (fun _ => 0))), (q3, .inl (cI, 12, .inl (fun _ => 0)))] H := hP
  have hD : va_D A [(h, .inr (11, [.int 0, .ref q1, .ref q2, .null, .null, .null, .null])), (q1, .inl (cI, 12, .inl (fun _ => 0))), (q2, .inl (cI, 12, .inl (fun _ => 0))), (q3, .inl (cI, 12, .inl (fun _ => 0)))] := hD
  refine va_putF (D := D) (ci := 11) (v := .ref q3) (ty := .array .int) (C := RX11) (T := TX11) (N := 7) hx hb hgt iwX11 tyX11 tyX11_ok nmX11 hown hK hP hD hS 0 rfl rfl 3 (Nat.le_of_ble_eq_true rfl) (hgt _ wd_0_63) (fun _ h9 => h9) rfl hin rfl (by decide +kernel) rfl rfl (Nat.le_of_ble_eq_true rfl) dX11_init_25 (fun H locs hP hD hS => ?_)
  have hP : va_P D vwCl [(h, .inr (11, [.int 0, .ref q1, .ref q2, .ref q3, .null, .null, .null])), (q1, .inl (cI, 12, .inl (fun _ => 0))), (q2, .inl (cI, 12, .inl (fun _ => 0))), (q3, .inl (cI, 12, .inl (fun _ => 0)))] H := hP
  have hD : va_D A [(h, .inr (11, [.int 0, .ref q1, .ref q2, .ref q3, .null, .null, .null])), (q1, .inl (cI, 12, .inl (fun _ => 0))), (q2, .inl (cI, 12, .inl (fun _ => 0))), (q3, .inl (cI, 12, .inl (fun _ => 0)))] := hD
  refine lv_aload_n hx hb dX11_init_28 rfl (lv_at hl 0 rfl) ?_
  refine lv_bipush (v := 12) hx hb dX11_init_29 (by decide) ?_
  refine nw_a (atype := .int) (ty := .int) (t0 := 0) (a0 := (12, .inl (fun _ => 0))) hx hb (hgt _ wd_0_92) rfl hK rfl hP hD hS hA (fun _ => rfl) (by decide) rfl (by decide) (Nat.le_of_ble_eq_true rfl) (Nat.le_of_ble_eq_true rfl) dX11_init_31 (fun q4 H hP hD hS => ?_)
  have hP : va_P D vwCl [(h, .inr (11, [.int 0, .ref q1, .ref q2, .ref q3, .null, .null, .null])), (q1, .inl (cI, 12, .inl (fun _ => 0))), (q2, .inl (cI, 12, .inl (fun _ => 0))), (q3, .inl (cI, 12, .inl (fun _ => 0))), (q4, .inl (cI, 12, .inl (fun _ => 0)))] H := hP
  have hD : va_D A [(h, .inr (11, [.int 0, .ref q1, .ref q2, .ref q3, .null, .null, .null])), (q1, .inl (cI, 12, .inl (fun _ => 0))), (q2, .inl (cI, 12, .inl (fun _ => 0))), (q3, .inl (cI, 12, .inl (fun _ => 0))), (q4, .inl (cI, 12, .inl (fun _ => 0)))] := hD
  refine va_putF (D := D) (ci := 11) (v := .ref q4) (ty := .array .int) (C := RX11) (T := TX11) (N := 7) hx hb hgt iwX11 tyX11 tyX11_ok nmX11 hown hK hP hD hS 0 rfl rfl 4 (Nat.le_of_ble_eq_true rfl) (hgt _ wd_0_67) (fun _ h9 => h9) rfl hin rfl (by decide +kernel) rfl rfl (Nat.le_of_ble_eq_true rfl) dX11_init_33 (fun H locs hP hD hS => ?_)
  have hP : va_P D vwCl [(h, .inr (11, [.int 0, .ref q1, .ref q2, .ref q3, .ref q4, .null, .null])), (q1, .inl (cI, 12, .inl (fun _ => 0))), (q2, .inl (cI, 12, .inl (fun _ => 0))), (q3, .inl (cI, 12, .inl (fun _ => 0))), (q4, .inl (cI, 12, .inl (fun _ => 0)))] H := hP
  have hD : va_D A [(h, .inr (11, [.int 0, .ref q1, .ref q2, .ref q3, .ref q4, .null, .null])), (q1, .inl (cI, 12, .inl (fun _ => 0))), (q2, .inl (cI, 12, .inl (fun _ => 0))), (q3, .inl (cI, 12, .inl (fun _ => 0))), (q4, .inl (cI, 12, .inl (fun _ => 0)))] := hD
  refine lv_aload_n hx hb dX11_init_36 rfl (lv_at hl 0 rfl) ?_
  refine lv_bipush (v := 12) hx hb dX11_init_37 (by decide) ?_
  refine nw_a (atype := .int) (ty := .int) (t0 := 0) (a0 := (12, .inl (fun _ => 0))) hx hb (hgt _ wd_0_92) rfl hK rfl hP hD hS hA (fun _ => rfl) (by decide) rfl (by decide) (Nat.le_of_ble_eq_true rfl) (Nat.le_of_ble_eq_true rfl) dX11_init_39 (fun q5 H hP hD hS => ?_)
  have hP : va_P D vwCl [(h, .inr (11, [.int 0, .ref q1, .ref q2, .ref q3, .ref q4, .null, .null])), (q1, .inl (cI, 12, .inl (fun _ => 0))), (q2, .inl (cI, 12, .inl (fun _ => 0))), (q3, .inl (cI, 12, .inl (fun _ => 0))), (q4, .inl (cI, 12, .inl (fun _ => 0))), (q5, .inl (cI, 12, .inl (fun _ => 0)))] H := hP
  have hD : va_D A [(h, .inr (11, [.int 0, .ref q1, .ref q2, .ref q3, .ref q4, .null, .null])), (q1, .inl (cI, 12, .inl (fun _ => 0))), (q2, .inl (cI, 12, .inl (fun _ => 0))), (q3, .inl (cI, 12, .inl (fun _ => 0))), (q4, .inl (cI, 12, .inl (fun _ => 0))), (q5, .inl (cI, 12, .inl (fun _ => 0)))] := hD
  refine va_putF (D := D) (ci := 11) (v := .ref q5) (ty := .array .int) (C := RX11) (T := TX11) (N := 7) hx hb hgt iwX11 tyX11 tyX11_ok nmX11 hown hK hP hD hS 0 rfl rfl 5 (Nat.le_of_ble_eq_true rfl) (hgt _ wd_0_71) (fun _ h9 => h9) rfl hin rfl (by decide +kernel) rfl rfl (Nat.le_of_ble_eq_true rfl) dX11_init_41 (fun H locs hP hD hS => ?_)
  have hP : va_P D vwCl [(h, .inr (11, [.int 0, .ref q1, .ref q2, .ref q3, .ref q4, .ref q5, .null])), (q1, .inl (cI, 12, .inl (fun _ => 0))), (q2, .inl (cI, 12, .inl (fun _ => 0))), (q3, .inl (cI, 12, .inl (fun _ => 0))), (q4, .inl (cI, 12, .inl (fun _ => 0))), (q5, .inl (cI, 12, .inl (fun _ => 0)))] H := hP
  have hD : va_D A [(h, .inr (11, [.int 0, .ref q1, .ref q2, .ref q3, .ref q4, .ref q5, .null])), (q1, .inl (cI, 12, .inl (fun _ => 0))), (q2, .inl (cI, 12, .inl (fun _ => 0))), (q3, .inl (cI, 12, .inl (fun _ => 0))), (q4, .inl (cI, 12, .inl (fun _ => 0))), (q5, .inl (cI, 12, .inl (fun _ => 0)))] := hD
  refine lv_aload_n hx hb dX11_init_44 rfl (lv_at hl 0 rfl) ?_
  refine lv_bipush (v := 12) hx hb dX11_init_45 (by decide) ?_
  refine nw_a (atype := .int) (ty := .int) (t0 := 0) (a0 := (12, .inl (fun _ => 0))) hx hb (hgt _ wd_0_92) rfl hK rfl hP hD hS hA (fun _ => rfl) (by decide) rfl (by decide) (Nat.le_of_ble_eq_true rfl) (Nat.le_of_ble_eq_true rfl) dX11_init_47 (fun q6 H hP hD hS => ?_)
  have hP : va_P D vwCl [(h, .inr (11, [.int 0, .ref q1, .ref q2, .ref q3, .ref q4, .ref q5, .null])), (q1, .inl (cI, 12, .inl (fun _ => 0))), (q2, .inl (cI, 12, .inl (fun _ => 0))), (q3, .inl (cI, 12, .inl (fun _ => 0))), (q4, .inl (cI, 12, .inl (fun _ => 0))), (q5, .inl (cI, 12, .inl (fun _ => 0))), (q6, .inl (cI, 12, .inl (fun _ => 0)))] H := hP
  have hD : va_D A [(h, .inr (11, [.int 0, .ref q1, .ref q2, .ref q3, .ref q4, .ref q5, .null])), (q1, .inl (cI, 12, .inl (fun _ => 0))), (q2, .inl (cI, 12, .inl (fun _ => 0))), (q3, .inl (cI, 12, .inl (fun _ => 0))), (q4, .inl (cI, 12, .inl (fun _ => 0))), (q5, .inl (cI, 12, .inl (fun _ => 0))), (q6, .inl (cI, 12, .inl (fun _ => 0)))] := hD
  refine va_putF (D := D) (ci := 11) (v := .ref q6) (ty := .array .int) (C := RX11) (T := TX11) (N := 7) hx hb hgt iwX11 tyX11 tyX11_ok nmX11 hown hK hP hD hS 0 rfl rfl 6 (Nat.le_of_ble_eq_true rfl) (hgt _ wd_0_74) (fun _ h9 => h9) rfl hin rfl (by decide +kernel) rfl rfl (Nat.le_of_ble_eq_true rfl) dX11_init_49 (fun H locs hP hD hS => ?_)
  have hP : va_P D vwCl [(h, .inr (11, [.int 0, .ref q1, .ref q2, .ref q3, .ref q4, .ref q5, .ref q6])), (q1, .inl (cI, 12, .inl (fun _ => 0))), (q2, .inl (cI, 12, .inl (fun _ => 0))), (q3, .inl (cI, 12, .inl (fun _ => 0))), (q4, .inl (cI, 12, .inl (fun _ => 0))), (q5, .inl (cI, 12, .inl (fun _ => 0))), (q6, .inl (cI, 12, .inl (fun _ => 0)))] H := hP
  have hD : va_D A [(h, .inr (11, [.int 0, .ref q1, .ref q2, .ref q3, .ref q4, .ref q5, .ref q6])), (q1, .inl (cI, 12, .inl (fun _ => 0))), (q2, .inl (cI, 12, .inl (fun _ => 0))), (q3, .inl (cI, 12, .inl (fun _ => 0))), (q4, .inl (cI, 12, .inl (fun _ => 0))), (q5, .inl (cI, 12, .inl (fun _ => 0))), (q6, .inl (cI, 12, .inl (fun _ => 0)))] := hD
  have hP9 := hP.sub (ws' := [(h, .inr (11, [.int 0, .ref q1, .ref q2, .ref q3, .ref q4, .ref q5, .ref q6])), (q1, .inl (cI, 12, .inl (fun _ => 0))), (q2, .inl (cI, 12, .inl (fun _ => 0))), (q3, .inl (cI, 12, .inl (fun _ => 0))), (q4, .inl (cI, 12, .inl (fun _ => 0))), (q5, .inl (cI, 12, .inl (fun _ => 0))), (q6, .inl (cI, 12, .inl (fun _ => 0)))]) [0, 1, 2, 3, 4, 5, 6] rfl
  have hD9 := hD.sub (ws' := [(h, .inr (11, [.int 0, .ref q1, .ref q2, .ref q3, .ref q4, .ref q5, .ref q6])), (q1, .inl (cI, 12, .inl (fun _ => 0))), (q2, .inl (cI, 12, .inl (fun _ => 0))), (q3, .inl (cI, 12, .inl (fun _ => 0))), (q4, .inl (cI, 12, .inl (fun _ => 0))), (q5, .inl (cI, 12, .inl (fun _ => 0))), (q6, .inl (cI, 12, .inl (fun _ => 0)))]) [0, 1, 2, 3, 4, 5, 6] (by decide) rfl
  refine W.widen (k := 6) (n := 72) (Nat.le_of_ble_eq_true rfl) (Nat.le_of_ble_eq_true rfl) ?_
  exact W.vret hx hb hr (fun t ht hW => ⟨⟨(), rfl, trivial, (rl [0, q1, q2, q3, q4, q5, q6]), by rw [ht]; exact hP9, hD9⟩, hS.F ht⟩) hS.2.2 dX11_init_52
set_option maxHeartbeats 4000000 in
set_option maxRecDepth 100000 in
theorem k_Mind (l : Launch) (D : va_G) (cI cZ cC cJ : ClassId) (h : Nat) (ly : Nat) (sz : Nat) : Met l yX8_init wsX8_init ({ frames := 1, cells := 1, slots := 16, locals := 12 }) (va_Pc [.ref h, .ref ly] (fun U => U.heap.size = sz ∧ va_P D vwCl [(h, .inr (8, [.null, .null, .int 0]))] U.heap ∧ va_K D vwCl [(cI, .int), (cZ, .boolean), (cC, .char), (cJ, .long)] U ∧ va_D (fun _ => True) [(h, .inr (8, [.null, .null, .int 0]))])) (va_Qv (fun (_ : Unit) => True) (fun _ t => ∃ (r : Nat → Nat), va_P D vwCl [(h, .inr (8, [.ref ly, .ref (r 1), .int 0])), ((r 1), .inl (cI, 16, .inl (fun _ => 0)))] t.heap ∧ va_D (va_A [(h, .inr (8, [.null, .null, .int 0]))] sz) [(h, .inr (8, [.ref ly, .ref (r 1), .int 0])), ((r 1), .inl (cI, 16, .inl (fun _ => 0)))]) (va_A [(h, .inr (8, [.null, .null, .int 0]))] sz)) 1 16 (va_A [(h, .inr (8, [.null, .null, .int 0]))] sz) := by
  refine Met.ofW (cc := cX8_init) (maxL := 2) (ret := none) (by decide) rfl ?_
  intro p e s m args below meth c s₁ B hml hv
  obtain ⟨rfl, hsz, hP, hK, hD0⟩ := hv
  have hx := B.exec
  have hb := B.bytes
  have hr := B.returns
  have hgt := fun w (h : w ∈ GT) => atoms_spec (ws := wsX8_init) B.pre w (List.mem_cons_of_mem _ h)
  have hown : s.vm.findClass RX8 = some m.cls := findClass_of_methodNamed B.named
  have hlocks := B.notSynchronized
  have hin : meth.name = "<init>" := (name_of_methodNamed B.named B.method).1
  subst hsz
  have hD := hD0.self (sz := s.heap.size)
  generalize hAe : va_A [(h, .inr (8, [.null, .null, .int 0]))] s.heap.size = A at hD ⊢
  have hA : ∀ q : Nat, s.heap.size ≤ q → A q := fun q h => by rw [← hAe]; exact Or.inr h
  have hS : va_S A s.heap s.heap [] := va_S.rf
  have hP : va_P D vwCl [(h, .inr (8, [.null, .null, .int 0]))] s.heap := hP
  have hl := lv_entry ([.ref h, .ref ly]) (n := 2) (Nat.le_of_ble_eq_true rfl)
  rw [lg_entry_eq]
  generalize (lg_sl ([.ref h, .ref ly]) ++ List.replicate (2 - (lg_sl ([.ref h, .ref ly])).length) Slot.unset).toArray = ls at hl ⊢
  have hl : lv_has ls 2 [(0, .ref h), (1, .ref ly)] := hl
  refine lv_aload_n hx hb dX8_init_0 rfl (lv_at hl 0 rfl) ?_
  refine W.objInit hx hb hown (hgt _ wd_1_111) (hgt _ wd_0_35) (hgt _ wd_0_36) rfl (by rw [hml]; exact hl.1) rfl dX8_init_1 (Nat.le_of_ble_eq_true rfl) (Nat.le_of_ble_eq_true rfl) ?_
  refine W.eq (g2 := F0 m 4 ls []) rfl ?_
  refine lv_aload_n hx hb dX8_init_4 rfl (lv_at hl 0 rfl) ?_
  refine lv_bipush (v := 16) hx hb dX8_init_5 (by decide) ?_
  refine nw_a (atype := .int) (ty := .int) (t0 := 0) (a0 := (16, .inl (fun _ => 0))) hx hb (hgt _ wd_0_92) rfl hK rfl hP hD hS hA (fun _ => rfl) (by decide) rfl (by decide) (Nat.le_of_ble_eq_true rfl) (Nat.le_of_ble_eq_true rfl) dX8_init_7 (fun q1 H hP hD hS => ?_)
  have hP : va_P D vwCl [(h, .inr (8, [.null, .null, .int 0])), (q1, .inl (cI, 16, .inl (fun _ => 0)))] H := hP
  have hD : va_D A [(h, .inr (8, [.null, .null, .int 0])), (q1, .inl (cI, 16, .inl (fun _ => 0)))] := hD
  refine va_putF (D := D) (ci := 8) (v := .ref q1) (ty := .array .int) (C := RX8) (T := TX8) (N := 3) hx hb hgt iwX8 tyX8 tyX8_ok nmX8 hown hK hP hD hS 0 rfl rfl 1 (Nat.le_of_ble_eq_true rfl) (hgt _ wd_1_113) (fun _ h9 => h9) rfl hin rfl (by decide +kernel) rfl rfl (Nat.le_of_ble_eq_true rfl) dX8_init_9 (fun H locs hP hD hS => ?_)
  have hP : va_P D vwCl [(h, .inr (8, [.null, .ref q1, .int 0])), (q1, .inl (cI, 16, .inl (fun _ => 0)))] H := hP
  have hD : va_D A [(h, .inr (8, [.null, .ref q1, .int 0])), (q1, .inl (cI, 16, .inl (fun _ => 0)))] := hD
  refine lv_aload_n hx hb dX8_init_12 rfl (lv_at hl 0 rfl) ?_
  refine lv_aload_n hx hb dX8_init_13 rfl (lv_at hl 1 rfl) ?_
  refine va_putF (D := D) (ci := 8) (v := .ref ly) (ty := .object "ChipMap$Layout") (C := RX8) (T := TX8) (N := 3) hx hb hgt iwX8 tyX8 tyX8_ok nmX8 hown hK hP hD hS 0 rfl rfl 0 (Nat.le_of_ble_eq_true rfl) (hgt _ wd_1_112) (fun _ h9 => h9) rfl hin rfl (by decide +kernel) rfl rfl (Nat.le_of_ble_eq_true rfl) dX8_init_14 (fun H locs hP hD hS => ?_)
  have hP : va_P D vwCl [(h, .inr (8, [.ref ly, .ref q1, .int 0])), (q1, .inl (cI, 16, .inl (fun _ => 0)))] H := hP
  have hD : va_D A [(h, .inr (8, [.ref ly, .ref q1, .int 0])), (q1, .inl (cI, 16, .inl (fun _ => 0)))] := hD
  have hP9 := hP.sub (ws' := [(h, .inr (8, [.ref ly, .ref q1, .int 0])), (q1, .inl (cI, 16, .inl (fun _ => 0)))]) [0, 1] rfl
  have hD9 := hD.sub (ws' := [(h, .inr (8, [.ref ly, .ref q1, .int 0])), (q1, .inl (cI, 16, .inl (fun _ => 0)))]) [0, 1] (by decide) rfl
  refine W.widen (k := 1) (n := 16) (Nat.le_of_ble_eq_true rfl) (Nat.le_of_ble_eq_true rfl) ?_
  exact W.vret hx hb hr (fun t ht hW => ⟨⟨(), rfl, trivial, (rl [0, q1]), by rw [ht]; exact hP9, hD9⟩, hS.F ht⟩) hS.2.2 dX8_init_17
set_option maxHeartbeats 4000000 in
set_option maxRecDepth 100000 in
theorem k_Log (l : Launch) (D : va_G) (cI cZ cC cJ : ClassId) (h : Nat) (sz : Nat) : Met l yX7_init wsX7_init ({ frames := 1, cells := 3, slots := 192, locals := 12 }) (va_Pc [.ref h] (fun U => U.heap.size = sz ∧ va_P D vwCl [(h, .inr (7, [.int 0, .null, .null, .null]))] U.heap ∧ va_K D vwCl [(cI, .int), (cZ, .boolean), (cC, .char), (cJ, .long)] U ∧ va_D (fun _ => True) [(h, .inr (7, [.int 0, .null, .null, .null]))])) (va_Qv (fun (_ : Unit) => True) (fun _ t => ∃ (r : Nat → Nat), va_P D vwCl [(h, .inr (7, [.int 0, .ref (r 1), .ref (r 2), .ref (r 3)])), ((r 1), .inl (cI, 64, .inl (fun _ => 0))), ((r 2), .inl (cI, 64, .inl (fun _ => 0))), ((r 3), .inl (cI, 64, .inl (fun _ => 0)))] t.heap ∧ va_D (va_A [(h, .inr (7, [.int 0, .null, .null, .null]))] sz) [(h, .inr (7, [.int 0, .ref (r 1), .ref (r 2), .ref (r 3)])), ((r 1), .inl (cI, 64, .inl (fun _ => 0))), ((r 2), .inl (cI, 64, .inl (fun _ => 0))), ((r 3), .inl (cI, 64, .inl (fun _ => 0)))]) (va_A [(h, .inr (7, [.int 0, .null, .null, .null]))] sz)) 3 192 (va_A [(h, .inr (7, [.int 0, .null, .null, .null]))] sz) := by
  refine Met.ofW (cc := cX7_init) (maxL := 1) (ret := none) (by decide) rfl ?_
  intro p e s m args below meth c s₁ B hml hv
  obtain ⟨rfl, hsz, hP, hK, hD0⟩ := hv
  have hx := B.exec
  have hb := B.bytes
  have hr := B.returns
  have hgt := fun w (h : w ∈ GT) => atoms_spec (ws := wsX7_init) B.pre w (List.mem_cons_of_mem _ h)
  have hown : s.vm.findClass RX7 = some m.cls := findClass_of_methodNamed B.named
  have hlocks := B.notSynchronized
  have hin : meth.name = "<init>" := (name_of_methodNamed B.named B.method).1
  subst hsz
  have hD := hD0.self (sz := s.heap.size)
  generalize hAe : va_A [(h, .inr (7, [.int 0, .null, .null, .null]))] s.heap.size = A at hD ⊢
  have hA : ∀ q : Nat, s.heap.size ≤ q → A q := fun q h => by rw [← hAe]; exact Or.inr h
  have hS : va_S A s.heap s.heap [] := va_S.rf
  have hP : va_P D vwCl [(h, .inr (7, [.int 0, .null, .null, .null]))] s.heap := hP
  have hl := lv_entry ([.ref h]) (n := 1) (Nat.le_of_ble_eq_true rfl)
  rw [lg_entry_eq]
  generalize (lg_sl ([.ref h]) ++ List.replicate (1 - (lg_sl ([.ref h])).length) Slot.unset).toArray = ls at hl ⊢
  have hl : lv_has ls 1 [(0, .ref h)] := hl
  refine lv_aload_n hx hb dX7_init_0 rfl (lv_at hl 0 rfl) ?_
  refine W.objInit hx hb hown (hgt _ wd_1_87) (hgt _ wd_0_35) (hgt _ wd_0_36) rfl (by rw [hml]; exact hl.1) rfl dX7_init_1 (Nat.le_of_ble_eq_true rfl) (Nat.le_of_ble_eq_true rfl) ?_
  refine W.eq (g2 := F0 m 4 ls []) rfl ?_
  refine lv_aload_n hx hb dX7_init_4 rfl (lv_at hl 0 rfl) ?_
  refine lv_bipush (v := 64) hx hb dX7_init_5 (by decide) ?_
  refine nw_a (atype := .int) (ty := .int) (t0 := 0) (a0 := (64, .inl (fun _ => 0))) hx hb (hgt _ wd_0_92) rfl hK rfl hP hD hS hA (fun _ => rfl) (by decide) rfl (by decide) (Nat.le_of_ble_eq_true rfl) (Nat.le_of_ble_eq_true rfl) dX7_init_7 (fun q1 H hP hD hS => ?_)
  have hP : va_P D vwCl [(h, .inr (7, [.int 0, .null, .null, .null])), (q1, .inl (cI, 64, .inl (fun _ => 0)))] H := hP
  have hD : va_D A [(h, .inr (7, [.int 0, .null, .null, .null])), (q1, .inl (cI, 64, .inl (fun _ => 0)))] := hD
  refine va_putF (D := D) (ci := 7) (v := .ref q1) (ty := .array .int) (C := RX7) (T := TX7) (N := 4) hx hb hgt iwX7 tyX7 tyX7_ok nmX7 hown hK hP hD hS 0 rfl rfl 1 (Nat.le_of_ble_eq_true rfl) (hgt _ wd_1_91) (fun _ h9 => h9) rfl hin rfl (by decide +kernel) rfl rfl (Nat.le_of_ble_eq_true rfl) dX7_init_9 (fun H locs hP hD hS => ?_)
  have hP : va_P D vwCl [(h, .inr (7, [.int 0, .ref q1, .null, .null])), (q1, .inl (cI, 64, .inl (fun _ => 0)))] H := hP
  have hD : va_D A [(h, .inr (7, [.int 0, .ref q1, .null, .null])), (q1, .inl (cI, 64, .inl (fun _ => 0)))] := hD
  refine lv_aload_n hx hb dX7_init_12 rfl (lv_at hl 0 rfl) ?_
  refine lv_bipush (v := 64) hx hb dX7_init_13 (by decide) ?_
  refine nw_a (atype := .int) (ty := .int) (t0 := 0) (a0 := (64, .inl (fun _ => 0))) hx hb (hgt _ wd_0_92) rfl hK rfl hP hD hS hA (fun _ => rfl) (by decide) rfl (by decide) (Nat.le_of_ble_eq_true rfl) (Nat.le_of_ble_eq_true rfl) dX7_init_15 (fun q2 H hP hD hS => ?_)
  have hP : va_P D vwCl [(h, .inr (7, [.int 0, .ref q1, .null, .null])), (q1, .inl (cI, 64, .inl (fun _ => 0))), (q2, .inl (cI, 64, .inl (fun _ => 0)))] H := hP
  have hD : va_D A [(h, .inr (7, [.int 0, .ref q1, .null, .null])), (q1, .inl (cI, 64, .inl (fun _ => 0))), (q2, .inl (cI, 64, .inl (fun _ => 0)))] := hD
  refine va_putF (D := D) (ci := 7) (v := .ref q2) (ty := .array .int) (C := RX7) (T := TX7) (N := 4) hx hb hgt iwX7 tyX7 tyX7_ok nmX7 hown hK hP hD hS 0 rfl rfl 2 (Nat.le_of_ble_eq_true rfl) (hgt _ wd_1_93) (fun _ h9 => h9) rfl hin rfl (by decide +kernel) rfl rfl (Nat.le_of_ble_eq_true rfl) dX7_init_17 (fun H locs hP hD hS => ?_)
  have hP : va_P D vwCl [(h, .inr (7, [.int 0, .ref q1, .ref q2, .null])), (q1, .inl (cI, 64, .inl (fun _ => 0))), (q2, .inl (cI, 64, .inl (fun _ => 0)))] H := hP
  have hD : va_D A [(h, .inr (7, [.int 0, .ref q1, .ref q2, .null])), (q1, .inl (cI, 64, .inl (fun _ => 0))), (q2, .inl (cI, 64, .inl (fun _ => 0)))] := hD
  refine lv_aload_n hx hb dX7_init_20 rfl (lv_at hl 0 rfl) ?_
  refine lv_bipush (v := 64) hx hb dX7_init_21 (by decide) ?_
  refine nw_a (atype := .int) (ty := .int) (t0 := 0) (a0 := (64, .inl (fun _ => 0))) hx hb (hgt _ wd_0_92) rfl hK rfl hP hD hS hA (fun _ => rfl) (by decide) rfl (by decide) (Nat.le_of_ble_eq_true rfl) (Nat.le_of_ble_eq_true rfl) dX7_init_23 (fun q3 H hP hD hS => ?_)
  have hP : va_P D vwCl [(h, .inr (7, [.int 0, .ref q1, .ref q2, .null])), (q1, .inl (cI, 64, .inl (fun _ => 0))), (q2, .inl (cI, 64, .inl (fun _ => 0))), (q3, .inl (cI, 64, .inl (fun _ => 0)))] H := hP
  have hD : va_D A [(h, .inr (7, [.int 0, .ref q1, .ref q2, .null])), (q1, .inl (cI, 64, .inl (fun _ => 0))), (q2, .inl (cI, 64, .inl (fun _ => 0))), (q3, .inl (cI, 64, .inl (fun _ => 0)))] := hD
  refine va_putF (D := D) (ci := 7) (v := .ref q3) (ty := .array .int) (C := RX7) (T := TX7) (N := 4) hx hb hgt iwX7 tyX7 tyX7_ok nmX7 hown hK hP hD hS 0 rfl rfl 3 (Nat.le_of_ble_eq_true rfl) (hgt _ wd_1_95) (fun _ h9 => h9) rfl hin rfl (by decide +kernel) rfl rfl (Nat.le_of_ble_eq_true rfl) dX7_init_25 (fun H locs hP hD hS => ?_)
  have hP : va_P D vwCl [(h, .inr (7, [.int 0, .ref q1, .ref q2, .ref q3])), (q1, .inl (cI, 64, .inl (fun _ => 0))), (q2, .inl (cI, 64, .inl (fun _ => 0))), (q3, .inl (cI, 64, .inl (fun _ => 0)))] H := hP
  have hD : va_D A [(h, .inr (7, [.int 0, .ref q1, .ref q2, .ref q3])), (q1, .inl (cI, 64, .inl (fun _ => 0))), (q2, .inl (cI, 64, .inl (fun _ => 0))), (q3, .inl (cI, 64, .inl (fun _ => 0)))] := hD
  have hP9 := hP.sub (ws' := [(h, .inr (7, [.int 0, .ref q1, .ref q2, .ref q3])), (q1, .inl (cI, 64, .inl (fun _ => 0))), (q2, .inl (cI, 64, .inl (fun _ => 0))), (q3, .inl (cI, 64, .inl (fun _ => 0)))]) [0, 1, 2, 3] rfl
  have hD9 := hD.sub (ws' := [(h, .inr (7, [.int 0, .ref q1, .ref q2, .ref q3])), (q1, .inl (cI, 64, .inl (fun _ => 0))), (q2, .inl (cI, 64, .inl (fun _ => 0))), (q3, .inl (cI, 64, .inl (fun _ => 0)))]) [0, 1, 2, 3] (by decide) rfl
  refine W.widen (k := 3) (n := 192) (Nat.le_of_ble_eq_true rfl) (Nat.le_of_ble_eq_true rfl) ?_
  exact W.vret hx hb hr (fun t ht hW => ⟨⟨(), rfl, trivial, (rl [0, q1, q2, q3]), by rw [ht]; exact hP9, hD9⟩, hS.F ht⟩) hS.2.2 dX7_init_28
set_option maxHeartbeats 4000000 in
set_option maxRecDepth 100000 in
theorem k_Reader (l : Launch) (D : va_G) (cI cZ cC cJ : ClassId) (h : Nat) (dr : Nat) (sz : Nat) : Met l yX10_init wsX10_init ({ frames := 1, cells := 1, slots := 480, locals := 12 }) (va_Pc [.ref h, .ref dr] (fun U => U.heap.size = sz ∧ va_P D vwCl [(h, .inr (10, [.null, .null, .int 0, .int 0]))] U.heap ∧ va_K D vwCl [(cI, .int), (cZ, .boolean), (cC, .char), (cJ, .long)] U ∧ va_D (fun _ => True) [(h, .inr (10, [.null, .null, .int 0, .int 0]))])) (va_Qv (fun (_ : Unit) => True) (fun _ t => ∃ (r : Nat → Nat), va_P D vwCl [(h, .inr (10, [.ref dr, .ref (r 1), .int 0, .int 0])), ((r 1), .inl (cC, 480, .inl (fun _ => 0)))] t.heap ∧ va_D (va_A [(h, .inr (10, [.null, .null, .int 0, .int 0]))] sz) [(h, .inr (10, [.ref dr, .ref (r 1), .int 0, .int 0])), ((r 1), .inl (cC, 480, .inl (fun _ => 0)))]) (va_A [(h, .inr (10, [.null, .null, .int 0, .int 0]))] sz)) 1 480 (va_A [(h, .inr (10, [.null, .null, .int 0, .int 0]))] sz) := by
  refine Met.ofW (cc := cX10_init) (maxL := 2) (ret := none) (by decide) rfl ?_
  intro p e s m args below meth c s₁ B hml hv
  obtain ⟨rfl, hsz, hP, hK, hD0⟩ := hv
  have hx := B.exec
  have hb := B.bytes
  have hr := B.returns
  have hgt := fun w (h : w ∈ GT) => atoms_spec (ws := wsX10_init) B.pre w (List.mem_cons_of_mem _ h)
  have hown : s.vm.findClass RX10 = some m.cls := findClass_of_methodNamed B.named
  have hlocks := B.notSynchronized
  have hin : meth.name = "<init>" := (name_of_methodNamed B.named B.method).1
  subst hsz
  have hD := hD0.self (sz := s.heap.size)
  generalize hAe : va_A [(h, .inr (10, [.null, .null, .int 0, .int 0]))] s.heap.size = A at hD ⊢
  have hA : ∀ q : Nat, s.heap.size ≤ q → A q := fun q h => by rw [← hAe]; exact Or.inr h
  have hS : va_S A s.heap s.heap [] := va_S.rf
  have hP : va_P D vwCl [(h, .inr (10, [.null, .null, .int 0, .int 0]))] s.heap := hP
  have hl := lv_entry ([.ref h, .ref dr]) (n := 2) (Nat.le_of_ble_eq_true rfl)
  rw [lg_entry_eq]
  generalize (lg_sl ([.ref h, .ref dr]) ++ List.replicate (2 - (lg_sl ([.ref h, .ref dr])).length) Slot.unset).toArray = ls at hl ⊢
  have hl : lv_has ls 2 [(0, .ref h), (1, .ref dr)] := hl
  refine lv_aload_n hx hb dX10_init_0 rfl (lv_at hl 0 rfl) ?_
  refine W.objInit hx hb hown (hgt _ wd_0_186) (hgt _ wd_0_35) (hgt _ wd_0_36) rfl (by rw [hml]; exact hl.1) rfl dX10_init_1 (Nat.le_of_ble_eq_true rfl) (Nat.le_of_ble_eq_true rfl) ?_
  refine W.eq (g2 := F0 m 4 ls []) rfl ?_
  refine lv_aload_n hx hb dX10_init_4 rfl (lv_at hl 0 rfl) ?_
  refine lv_sipush (v := 480) hx hb dX10_init_5 (by decide) ?_
  refine nw_a (atype := .char) (ty := .char) (t0 := 2) (a0 := (480, .inl (fun _ => 0))) hx hb (hgt _ wd_0_201) rfl hK rfl hP hD hS hA (fun _ => rfl) (by decide) rfl (by decide) (Nat.le_of_ble_eq_true rfl) (Nat.le_of_ble_eq_true rfl) dX10_init_8 (fun q1 H hP hD hS => ?_)
  have hP : va_P D vwCl [(h, .inr (10, [.null, .null, .int 0, .int 0])), (q1, .inl (cC, 480, .inl (fun _ => 0)))] H := hP
  have hD : va_D A [(h, .inr (10, [.null, .null, .int 0, .int 0])), (q1, .inl (cC, 480, .inl (fun _ => 0)))] := hD
  refine va_putF (D := D) (ci := 10) (v := .ref q1) (ty := .array .char) (C := RX10) (T := TX10) (N := 4) hx hb hgt iwX10 tyX10 tyX10_ok nmX10 hown hK hP hD hS 0 rfl rfl 1 (Nat.le_of_ble_eq_true rfl) (hgt _ wd_0_188) (fun _ h9 => h9) rfl hin rfl (by decide +kernel) rfl rfl (Nat.le_of_ble_eq_true rfl) dX10_init_10 (fun H locs hP hD hS => ?_)
  have hP : va_P D vwCl [(h, .inr (10, [.null, .ref q1, .int 0, .int 0])), (q1, .inl (cC, 480, .inl (fun _ => 0)))] H := hP
  have hD : va_D A [(h, .inr (10, [.null, .ref q1, .int 0, .int 0])), (q1, .inl (cC, 480, .inl (fun _ => 0)))] := hD
  refine lv_aload_n hx hb dX10_init_13 rfl (lv_at hl 0 rfl) ?_
  refine lv_aload_n hx hb dX10_init_14 rfl (lv_at hl 1 rfl) ?_
  refine va_putF (D := D) (ci := 10) (v := .ref dr) (ty := .object "ChipMap$Draft") (C := RX10) (T := TX10) (N := 4) hx hb hgt iwX10 tyX10 tyX10_ok nmX10 hown hK hP hD hS 0 rfl rfl 0 (Nat.le_of_ble_eq_true rfl) (hgt _ wd_0_187) (fun _ h9 => h9) rfl hin rfl (by decide +kernel) rfl rfl (Nat.le_of_ble_eq_true rfl) dX10_init_15 (fun H locs hP hD hS => ?_)
  have hP : va_P D vwCl [(h, .inr (10, [.ref dr, .ref q1, .int 0, .int 0])), (q1, .inl (cC, 480, .inl (fun _ => 0)))] H := hP
  have hD : va_D A [(h, .inr (10, [.ref dr, .ref q1, .int 0, .int 0])), (q1, .inl (cC, 480, .inl (fun _ => 0)))] := hD
  have hP9 := hP.sub (ws' := [(h, .inr (10, [.ref dr, .ref q1, .int 0, .int 0])), (q1, .inl (cC, 480, .inl (fun _ => 0)))]) [0, 1] rfl
  have hD9 := hD.sub (ws' := [(h, .inr (10, [.ref dr, .ref q1, .int 0, .int 0])), (q1, .inl (cC, 480, .inl (fun _ => 0)))]) [0, 1] (by decide) rfl
  refine W.widen (k := 1) (n := 480) (Nat.le_of_ble_eq_true rfl) (Nat.le_of_ble_eq_true rfl) ?_
  exact W.vret hx hb hr (fun t ht hW => ⟨⟨(), rfl, trivial, (rl [0, q1]), by rw [ht]; exact hP9, hD9⟩, hS.F ht⟩) hS.2.2 dX10_init_18
set_option maxHeartbeats 4000000 in
set_option maxRecDepth 100000 in
theorem k_Judge (l : Launch) (D : va_G) (cI cZ cC cJ : ClassId) (h : Nat) (dr : Nat) (sz : Nat) : Met l yX5_init wsX5_init ({ frames := 1, cells := 0, slots := 0, locals := 12 }) (va_Pc [.ref h, .ref dr] (fun U => U.heap.size = sz ∧ va_P D vwCl [(h, .inr (5, [.null, .int 0, .int 0]))] U.heap ∧ va_K D vwCl [(cI, .int), (cZ, .boolean), (cC, .char), (cJ, .long)] U ∧ va_D (fun _ => True) [(h, .inr (5, [.null, .int 0, .int 0]))])) (va_Qv (fun (_ : Unit) => True) (fun _ t => va_P D vwCl [(h, .inr (5, [.ref dr, .int 0, .int 0]))] t.heap ∧ va_D (va_A [(h, .inr (5, [.null, .int 0, .int 0]))] sz) [(h, .inr (5, [.ref dr, .int 0, .int 0]))]) (va_A [(h, .inr (5, [.null, .int 0, .int 0]))] sz)) 0 0 (va_A [(h, .inr (5, [.null, .int 0, .int 0]))] sz) := by
  refine Met.ofW (cc := cX5_init) (maxL := 2) (ret := none) (by decide) rfl ?_
  intro p e s m args below meth c s₁ B hml hv
  obtain ⟨rfl, hsz, hP, hK, hD0⟩ := hv
  have hx := B.exec
  have hb := B.bytes
  have hr := B.returns
  have hgt := fun w (h : w ∈ GT) => atoms_spec (ws := wsX5_init) B.pre w (List.mem_cons_of_mem _ h)
  have hown : s.vm.findClass RX5 = some m.cls := findClass_of_methodNamed B.named
  have hlocks := B.notSynchronized
  have hin : meth.name = "<init>" := (name_of_methodNamed B.named B.method).1
  subst hsz
  have hD := hD0.self (sz := s.heap.size)
  generalize hAe : va_A [(h, .inr (5, [.null, .int 0, .int 0]))] s.heap.size = A at hD ⊢
  have hA : ∀ q : Nat, s.heap.size ≤ q → A q := fun q h => by rw [← hAe]; exact Or.inr h
  have hS : va_S A s.heap s.heap [] := va_S.rf
  have hP : va_P D vwCl [(h, .inr (5, [.null, .int 0, .int 0]))] s.heap := hP
  have hl := lv_entry ([.ref h, .ref dr]) (n := 2) (Nat.le_of_ble_eq_true rfl)
  rw [lg_entry_eq]
  generalize (lg_sl ([.ref h, .ref dr]) ++ List.replicate (2 - (lg_sl ([.ref h, .ref dr])).length) Slot.unset).toArray = ls at hl ⊢
  have hl : lv_has ls 2 [(0, .ref h), (1, .ref dr)] := hl
  refine lv_aload_n hx hb dX5_init_0 rfl (lv_at hl 0 rfl) ?_
  refine W.objInit hx hb hown (hgt _ wd_0_207) (hgt _ wd_0_35) (hgt _ wd_0_36) rfl (by rw [hml]; exact hl.1) rfl dX5_init_1 (Nat.le_of_ble_eq_true rfl) (Nat.le_of_ble_eq_true rfl) ?_
  refine W.eq (g2 := F0 m 4 ls []) rfl ?_
  refine lv_aload_n hx hb dX5_init_4 rfl (lv_at hl 0 rfl) ?_
  refine lv_aload_n hx hb dX5_init_5 rfl (lv_at hl 1 rfl) ?_
  refine va_putF (D := D) (ci := 5) (v := .ref dr) (ty := .object "ChipMap$Draft") (C := RX5) (T := TX5) (N := 3) hx hb hgt iwX5 tyX5 tyX5_ok nmX5 hown hK hP hD hS 0 rfl rfl 0 (Nat.le_of_ble_eq_true rfl) (hgt _ wd_0_208) (fun _ h9 => h9) rfl hin rfl (by decide +kernel) rfl rfl (Nat.le_of_ble_eq_true rfl) dX5_init_6 (fun H locs hP hD hS => ?_)
  have hP : va_P D vwCl [(h, .inr (5, [.ref dr, .int 0, .int 0]))] H := hP
  have hD : va_D A [(h, .inr (5, [.ref dr, .int 0, .int 0]))] := hD
  have hP9 := hP.sub (ws' := [(h, .inr (5, [.ref dr, .int 0, .int 0]))]) [0] rfl
  have hD9 := hD.sub (ws' := [(h, .inr (5, [.ref dr, .int 0, .int 0]))]) [0] (by decide) rfl
  refine W.widen (k := 0) (n := 0) (Nat.le_of_ble_eq_true rfl) (Nat.le_of_ble_eq_true rfl) ?_
  exact W.vret hx hb hr (fun t ht hW => ⟨⟨(), rfl, trivial, by rw [ht]; exact hP9, hD9⟩, hS.F ht⟩) hS.2.2 dX5_init_9
set_option maxHeartbeats 4000000 in
set_option maxRecDepth 100000 in
theorem k_Checker (l : Launch) (D : va_G) (cI cZ cC cJ : ClassId) (h : Nat) (ly : Nat) (sc : Nat) (pl : Nat) (sz : Nat) : Met l yX2_init wsX2_init ({ frames := 1, cells := 3, slots := 7053, locals := 12 }) (va_Pc [.ref h, .ref ly, .ref sc, .ref pl] (fun U => U.heap.size = sz ∧ va_P D vwCl [(h, .inr (2, [.null, .null, .null, .null, .null, .null, .int 0, .int 0, .int 0, .int 0]))] U.heap ∧ va_K D vwCl [(cI, .int), (cZ, .boolean), (cC, .char), (cJ, .long)] U ∧ va_D (fun _ => True) [(h, .inr (2, [.null, .null, .null, .null, .null, .null, .int 0, .int 0, .int 0, .int 0]))])) (va_Qv (fun (_ : Unit) => True) (fun _ t => ∃ (r : Nat → Nat), va_P D vwCl [(h, .inr (2, [.ref ly, .ref sc, .ref pl, .ref (r 1), .ref (r 2), .ref (r 3), .int 0, .int 0, .int ((-1)), .int 0])), ((r 1), .inl (cJ, 5000, .inr (.inl (fun _ => 0)))), ((r 2), .inl (cJ, 5, .inr (.inl (fun _ => 0)))), ((r 3), .inl (cI, 2048, .inl (fun _ => 0)))] t.heap ∧ va_D (va_A [(h, .inr (2, [.null, .null, .null, .null, .null, .null, .int 0, .int 0, .int 0, .int 0]))] sz) [(h, .inr (2, [.ref ly, .ref sc, .ref pl, .ref (r 1), .ref (r 2), .ref (r 3), .int 0, .int 0, .int ((-1)), .int 0])), ((r 1), .inl (cJ, 5000, .inr (.inl (fun _ => 0)))), ((r 2), .inl (cJ, 5, .inr (.inl (fun _ => 0)))), ((r 3), .inl (cI, 2048, .inl (fun _ => 0)))]) (va_A [(h, .inr (2, [.null, .null, .null, .null, .null, .null, .int 0, .int 0, .int 0, .int 0]))] sz)) 3 7053 (va_A [(h, .inr (2, [.null, .null, .null, .null, .null, .null, .int 0, .int 0, .int 0, .int 0]))] sz) := by
  refine Met.ofW (cc := cX2_init) (maxL := 4) (ret := none) (by decide) rfl ?_
  intro p e s m args below meth c s₁ B hml hv
  obtain ⟨rfl, hsz, hP, hK, hD0⟩ := hv
  have hx := B.exec
  have hb := B.bytes
  have hr := B.returns
  have hgt := fun w (h : w ∈ GT) => atoms_spec (ws := wsX2_init) B.pre w (List.mem_cons_of_mem _ h)
  have hown : s.vm.findClass RX2 = some m.cls := findClass_of_methodNamed B.named
  have hlocks := B.notSynchronized
  have hin : meth.name = "<init>" := (name_of_methodNamed B.named B.method).1
  subst hsz
  have hD := hD0.self (sz := s.heap.size)
  generalize hAe : va_A [(h, .inr (2, [.null, .null, .null, .null, .null, .null, .int 0, .int 0, .int 0, .int 0]))] s.heap.size = A at hD ⊢
  have hA : ∀ q : Nat, s.heap.size ≤ q → A q := fun q h => by rw [← hAe]; exact Or.inr h
  have hS : va_S A s.heap s.heap [] := va_S.rf
  have hP : va_P D vwCl [(h, .inr (2, [.null, .null, .null, .null, .null, .null, .int 0, .int 0, .int 0, .int 0]))] s.heap := hP
  have hl := lv_entry ([.ref h, .ref ly, .ref sc, .ref pl]) (n := 4) (Nat.le_of_ble_eq_true rfl)
  rw [lg_entry_eq]
  generalize (lg_sl ([.ref h, .ref ly, .ref sc, .ref pl]) ++ List.replicate (4 - (lg_sl ([.ref h, .ref ly, .ref sc, .ref pl])).length) Slot.unset).toArray = ls at hl ⊢
  have hl : lv_has ls 4 [(0, .ref h), (1, .ref ly), (2, .ref sc), (3, .ref pl)] := hl
  refine lv_aload_n hx hb dX2_init_0 rfl (lv_at hl 0 rfl) ?_
  refine W.objInit hx hb hown (hgt _ wd_1_220) (hgt _ wd_0_35) (hgt _ wd_0_36) rfl (by rw [hml]; exact hl.1) rfl dX2_init_1 (Nat.le_of_ble_eq_true rfl) (Nat.le_of_ble_eq_true rfl) ?_
  refine W.eq (g2 := F0 m 4 ls []) rfl ?_
  refine lv_aload_n hx hb dX2_init_4 rfl (lv_at hl 0 rfl) ?_
  refine lv_sipush (v := 5000) hx hb dX2_init_5 (by decide) ?_
  refine nw_a (atype := .long) (ty := .long) (t0 := 3) (a0 := (5000, .inr (.inl (fun _ => 0)))) hx hb (hgt _ wd_2_16) rfl hK rfl hP hD hS hA (fun _ => rfl) (by decide) rfl (by decide) (Nat.le_of_ble_eq_true rfl) (Nat.le_of_ble_eq_true rfl) dX2_init_8 (fun q1 H hP hD hS => ?_)
  have hP : va_P D vwCl [(h, .inr (2, [.null, .null, .null, .null, .null, .null, .int 0, .int 0, .int 0, .int 0])), (q1, .inl (cJ, 5000, .inr (.inl (fun _ => 0))))] H := hP
  have hD : va_D A [(h, .inr (2, [.null, .null, .null, .null, .null, .null, .int 0, .int 0, .int 0, .int 0])), (q1, .inl (cJ, 5000, .inr (.inl (fun _ => 0))))] := hD
  refine va_putF (D := D) (ci := 2) (v := .ref q1) (ty := .array .long) (C := RX2) (T := TX2) (N := 10) hx hb hgt iwX2 tyX2 tyX2_ok nmX2 hown hK hP hD hS 0 rfl rfl 3 (Nat.le_of_ble_eq_true rfl) (hgt _ wd_1_224) (fun _ h9 => h9) rfl hin rfl (by decide +kernel) rfl rfl (Nat.le_of_ble_eq_true rfl) dX2_init_10 (fun H locs hP hD hS => ?_)
  have hP : va_P D vwCl [(h, .inr (2, [.null, .null, .null, .ref q1, .null, .null, .int 0, .int 0, .int 0, .int 0])), (q1, .inl (cJ, 5000, .inr (.inl (fun _ => 0))))] H := hP
  have hD : va_D A [(h, .inr (2, [.null, .null, .null, .ref q1, .null, .null, .int 0, .int 0, .int 0, .int 0])), (q1, .inl (cJ, 5000, .inr (.inl (fun _ => 0))))] := hD
  refine lv_aload_n hx hb dX2_init_13 rfl (lv_at hl 0 rfl) ?_
  refine lv_iconst (v := 5) hx hb dX2_init_14 (by decide) ?_
  refine nw_a (atype := .long) (ty := .long) (t0 := 3) (a0 := (5, .inr (.inl (fun _ => 0)))) hx hb (hgt _ wd_2_16) rfl hK rfl hP hD hS hA (fun _ => rfl) (by decide) rfl (by decide) (Nat.le_of_ble_eq_true rfl) (Nat.le_of_ble_eq_true rfl) dX2_init_15 (fun q2 H hP hD hS => ?_)
  have hP : va_P D vwCl [(h, .inr (2, [.null, .null, .null, .ref q1, .null, .null, .int 0, .int 0, .int 0, .int 0])), (q1, .inl (cJ, 5000, .inr (.inl (fun _ => 0)))), (q2, .inl (cJ, 5, .inr (.inl (fun _ => 0))))] H := hP
  have hD : va_D A [(h, .inr (2, [.null, .null, .null, .ref q1, .null, .null, .int 0, .int 0, .int 0, .int 0])), (q1, .inl (cJ, 5000, .inr (.inl (fun _ => 0)))), (q2, .inl (cJ, 5, .inr (.inl (fun _ => 0))))] := hD
  refine va_putF (D := D) (ci := 2) (v := .ref q2) (ty := .array .long) (C := RX2) (T := TX2) (N := 10) hx hb hgt iwX2 tyX2 tyX2_ok nmX2 hown hK hP hD hS 0 rfl rfl 4 (Nat.le_of_ble_eq_true rfl) (hgt _ wd_1_225) (fun _ h9 => h9) rfl hin rfl (by decide +kernel) rfl rfl (Nat.le_of_ble_eq_true rfl) dX2_init_17 (fun H locs hP hD hS => ?_)
  have hP : va_P D vwCl [(h, .inr (2, [.null, .null, .null, .ref q1, .ref q2, .null, .int 0, .int 0, .int 0, .int 0])), (q1, .inl (cJ, 5000, .inr (.inl (fun _ => 0)))), (q2, .inl (cJ, 5, .inr (.inl (fun _ => 0))))] H := hP
  have hD : va_D A [(h, .inr (2, [.null, .null, .null, .ref q1, .ref q2, .null, .int 0, .int 0, .int 0, .int 0])), (q1, .inl (cJ, 5000, .inr (.inl (fun _ => 0)))), (q2, .inl (cJ, 5, .inr (.inl (fun _ => 0))))] := hD
  refine lv_aload_n hx hb dX2_init_20 rfl (lv_at hl 0 rfl) ?_
  refine lv_sipush (v := 2048) hx hb dX2_init_21 (by decide) ?_
  refine nw_a (atype := .int) (ty := .int) (t0 := 0) (a0 := (2048, .inl (fun _ => 0))) hx hb (hgt _ wd_0_92) rfl hK rfl hP hD hS hA (fun _ => rfl) (by decide) rfl (by decide) (Nat.le_of_ble_eq_true rfl) (Nat.le_of_ble_eq_true rfl) dX2_init_24 (fun q3 H hP hD hS => ?_)
  have hP : va_P D vwCl [(h, .inr (2, [.null, .null, .null, .ref q1, .ref q2, .null, .int 0, .int 0, .int 0, .int 0])), (q1, .inl (cJ, 5000, .inr (.inl (fun _ => 0)))), (q2, .inl (cJ, 5, .inr (.inl (fun _ => 0)))), (q3, .inl (cI, 2048, .inl (fun _ => 0)))] H := hP
  have hD : va_D A [(h, .inr (2, [.null, .null, .null, .ref q1, .ref q2, .null, .int 0, .int 0, .int 0, .int 0])), (q1, .inl (cJ, 5000, .inr (.inl (fun _ => 0)))), (q2, .inl (cJ, 5, .inr (.inl (fun _ => 0)))), (q3, .inl (cI, 2048, .inl (fun _ => 0)))] := hD
  refine va_putF (D := D) (ci := 2) (v := .ref q3) (ty := .array .int) (C := RX2) (T := TX2) (N := 10) hx hb hgt iwX2 tyX2 tyX2_ok nmX2 hown hK hP hD hS 0 rfl rfl 5 (Nat.le_of_ble_eq_true rfl) (hgt _ wd_1_226) (fun _ h9 => h9) rfl hin rfl (by decide +kernel) rfl rfl (Nat.le_of_ble_eq_true rfl) dX2_init_26 (fun H locs hP hD hS => ?_)
  have hP : va_P D vwCl [(h, .inr (2, [.null, .null, .null, .ref q1, .ref q2, .ref q3, .int 0, .int 0, .int 0, .int 0])), (q1, .inl (cJ, 5000, .inr (.inl (fun _ => 0)))), (q2, .inl (cJ, 5, .inr (.inl (fun _ => 0)))), (q3, .inl (cI, 2048, .inl (fun _ => 0)))] H := hP
  have hD : va_D A [(h, .inr (2, [.null, .null, .null, .ref q1, .ref q2, .ref q3, .int 0, .int 0, .int 0, .int 0])), (q1, .inl (cJ, 5000, .inr (.inl (fun _ => 0)))), (q2, .inl (cJ, 5, .inr (.inl (fun _ => 0)))), (q3, .inl (cI, 2048, .inl (fun _ => 0)))] := hD
  refine lv_aload_n hx hb dX2_init_29 rfl (lv_at hl 0 rfl) ?_
  refine lv_iconst (v := (-1)) hx hb dX2_init_30 (by decide) ?_
  refine va_put (D := D) (ci := 2) (v := .int ((-1))) (ty := .int) (C := RX2) (T := TX2) (N := 10) hx hb hgt iwX2 tyX2 tyX2_ok nmX2 hown hK hP hD hS 0 rfl rfl 8 (Nat.le_of_ble_eq_true rfl) (hgt _ wd_1_231) (fun _ h9 => h9) rfl (by decide +kernel) rfl rfl (Nat.le_of_ble_eq_true rfl) dX2_init_31 (fun H locs hP hD hS => ?_)
  have hP : va_P D vwCl [(h, .inr (2, [.null, .null, .null, .ref q1, .ref q2, .ref q3, .int 0, .int 0, .int ((-1)), .int 0])), (q1, .inl (cJ, 5000, .inr (.inl (fun _ => 0)))), (q2, .inl (cJ, 5, .inr (.inl (fun _ => 0)))), (q3, .inl (cI, 2048, .inl (fun _ => 0)))] H := hP
  have hD : va_D A [(h, .inr (2, [.null, .null, .null, .ref q1, .ref q2, .ref q3, .int 0, .int 0, .int ((-1)), .int 0])), (q1, .inl (cJ, 5000, .inr (.inl (fun _ => 0)))), (q2, .inl (cJ, 5, .inr (.inl (fun _ => 0)))), (q3, .inl (cI, 2048, .inl (fun _ => 0)))] := hD
  refine lv_aload_n hx hb dX2_init_34 rfl (lv_at hl 0 rfl) ?_
  refine lv_aload_n hx hb dX2_init_35 rfl (lv_at hl 1 rfl) ?_
  refine va_putF (D := D) (ci := 2) (v := .ref ly) (ty := .object "ChipMap$Layout") (C := RX2) (T := TX2) (N := 10) hx hb hgt iwX2 tyX2 tyX2_ok nmX2 hown hK hP hD hS 0 rfl rfl 0 (Nat.le_of_ble_eq_true rfl) (hgt _ wd_1_221) (fun _ h9 => h9) rfl hin rfl (by decide +kernel) rfl rfl (Nat.le_of_ble_eq_true rfl) dX2_init_36 (fun H locs hP hD hS => ?_)
  have hP : va_P D vwCl [(h, .inr (2, [.ref ly, .null, .null, .ref q1, .ref q2, .ref q3, .int 0, .int 0, .int ((-1)), .int 0])), (q1, .inl (cJ, 5000, .inr (.inl (fun _ => 0)))), (q2, .inl (cJ, 5, .inr (.inl (fun _ => 0)))), (q3, .inl (cI, 2048, .inl (fun _ => 0)))] H := hP
  have hD : va_D A [(h, .inr (2, [.ref ly, .null, .null, .ref q1, .ref q2, .ref q3, .int 0, .int 0, .int ((-1)), .int 0])), (q1, .inl (cJ, 5000, .inr (.inl (fun _ => 0)))), (q2, .inl (cJ, 5, .inr (.inl (fun _ => 0)))), (q3, .inl (cI, 2048, .inl (fun _ => 0)))] := hD
  refine lv_aload_n hx hb dX2_init_39 rfl (lv_at hl 0 rfl) ?_
  refine lv_aload_n hx hb dX2_init_40 rfl (lv_at hl 2 rfl) ?_
  refine va_putF (D := D) (ci := 2) (v := .ref sc) (ty := .object "ChipMap$Steps") (C := RX2) (T := TX2) (N := 10) hx hb hgt iwX2 tyX2 tyX2_ok nmX2 hown hK hP hD hS 0 rfl rfl 1 (Nat.le_of_ble_eq_true rfl) (hgt _ wd_1_222) (fun _ h9 => h9) rfl hin rfl (by decide +kernel) rfl rfl (Nat.le_of_ble_eq_true rfl) dX2_init_41 (fun H locs hP hD hS => ?_)
  have hP : va_P D vwCl [(h, .inr (2, [.ref ly, .ref sc, .null, .ref q1, .ref q2, .ref q3, .int 0, .int 0, .int ((-1)), .int 0])), (q1, .inl (cJ, 5000, .inr (.inl (fun _ => 0)))), (q2, .inl (cJ, 5, .inr (.inl (fun _ => 0)))), (q3, .inl (cI, 2048, .inl (fun _ => 0)))] H := hP
  have hD : va_D A [(h, .inr (2, [.ref ly, .ref sc, .null, .ref q1, .ref q2, .ref q3, .int 0, .int 0, .int ((-1)), .int 0])), (q1, .inl (cJ, 5000, .inr (.inl (fun _ => 0)))), (q2, .inl (cJ, 5, .inr (.inl (fun _ => 0)))), (q3, .inl (cI, 2048, .inl (fun _ => 0)))] := hD
  refine lv_aload_n hx hb dX2_init_44 rfl (lv_at hl 0 rfl) ?_
  refine lv_aload_n hx hb dX2_init_45 rfl (lv_at hl 3 rfl) ?_
  refine va_putF (D := D) (ci := 2) (v := .ref pl) (ty := .object "ChipMap$Plan") (C := RX2) (T := TX2) (N := 10) hx hb hgt iwX2 tyX2 tyX2_ok nmX2 hown hK hP hD hS 0 rfl rfl 2 (Nat.le_of_ble_eq_true rfl) (hgt _ wd_1_223) (fun _ h9 => h9) rfl hin rfl (by decide +kernel) rfl rfl (Nat.le_of_ble_eq_true rfl) dX2_init_46 (fun H locs hP hD hS => ?_)
  have hP : va_P D vwCl [(h, .inr (2, [.ref ly, .ref sc, .ref pl, .ref q1, .ref q2, .ref q3, .int 0, .int 0, .int ((-1)), .int 0])), (q1, .inl (cJ, 5000, .inr (.inl (fun _ => 0)))), (q2, .inl (cJ, 5, .inr (.inl (fun _ => 0)))), (q3, .inl (cI, 2048, .inl (fun _ => 0)))] H := hP
  have hD : va_D A [(h, .inr (2, [.ref ly, .ref sc, .ref pl, .ref q1, .ref q2, .ref q3, .int 0, .int 0, .int ((-1)), .int 0])), (q1, .inl (cJ, 5000, .inr (.inl (fun _ => 0)))), (q2, .inl (cJ, 5, .inr (.inl (fun _ => 0)))), (q3, .inl (cI, 2048, .inl (fun _ => 0)))] := hD
  have hP9 := hP.sub (ws' := [(h, .inr (2, [.ref ly, .ref sc, .ref pl, .ref q1, .ref q2, .ref q3, .int 0, .int 0, .int ((-1)), .int 0])), (q1, .inl (cJ, 5000, .inr (.inl (fun _ => 0)))), (q2, .inl (cJ, 5, .inr (.inl (fun _ => 0)))), (q3, .inl (cI, 2048, .inl (fun _ => 0)))]) [0, 1, 2, 3] rfl
  have hD9 := hD.sub (ws' := [(h, .inr (2, [.ref ly, .ref sc, .ref pl, .ref q1, .ref q2, .ref q3, .int 0, .int 0, .int ((-1)), .int 0])), (q1, .inl (cJ, 5000, .inr (.inl (fun _ => 0)))), (q2, .inl (cJ, 5, .inr (.inl (fun _ => 0)))), (q3, .inl (cI, 2048, .inl (fun _ => 0)))]) [0, 1, 2, 3] (by decide) rfl
  refine W.widen (k := 3) (n := 7053) (Nat.le_of_ble_eq_true rfl) (Nat.le_of_ble_eq_true rfl) ?_
  exact W.vret hx hb hr (fun t ht hW => ⟨⟨(), rfl, trivial, (rl [0, q1, q2, q3]), by rw [ht]; exact hP9, hD9⟩, hS.F ht⟩) hS.2.2 dX2_init_49
set_option maxHeartbeats 4000000 in
set_option maxRecDepth 100000 in
theorem k_Steps_joined (l : Launch) (D : va_G) (cI cZ cC cJ : ClassId) (h : Nat) (sz : Nat) : Met l yX12_init wsX12_init ({ frames := 1, cells := 3, slots := 24, locals := 12 }) (va_Pc [.ref h, .int 8] (fun U => U.heap.size = sz ∧ va_P D vwCl [(h, .inr (12, [.int 0, .null, .null, .null]))] U.heap ∧ va_K D vwCl [(cI, .int), (cZ, .boolean), (cC, .char), (cJ, .long)] U ∧ va_D (fun _ => True) [(h, .inr (12, [.int 0, .null, .null, .null]))])) (va_Qv (fun (_ : Unit) => True) (fun _ t => ∃ (r : Nat → Nat), va_P D vwCl [(h, .inr (12, [.int 0, .ref (r 1), .ref (r 2), .ref (r 3)])), ((r 1), .inl (cI, 8, .inl (fun _ => 0))), ((r 2), .inl (cI, 8, .inl (fun _ => 0))), ((r 3), .inl (cI, 8, .inl (fun _ => 0)))] t.heap ∧ va_D (va_A [(h, .inr (12, [.int 0, .null, .null, .null]))] sz) [(h, .inr (12, [.int 0, .ref (r 1), .ref (r 2), .ref (r 3)])), ((r 1), .inl (cI, 8, .inl (fun _ => 0))), ((r 2), .inl (cI, 8, .inl (fun _ => 0))), ((r 3), .inl (cI, 8, .inl (fun _ => 0)))]) (va_A [(h, .inr (12, [.int 0, .null, .null, .null]))] sz)) 3 24 (va_A [(h, .inr (12, [.int 0, .null, .null, .null]))] sz) := by
  refine Met.ofW (cc := cX12_init) (maxL := 2) (ret := none) (by decide) rfl ?_
  intro p e s m args below meth c s₁ B hml hv
  obtain ⟨rfl, hsz, hP, hK, hD0⟩ := hv
  have hx := B.exec
  have hb := B.bytes
  have hr := B.returns
  have hgt := fun w (h : w ∈ GT) => atoms_spec (ws := wsX12_init) B.pre w (List.mem_cons_of_mem _ h)
  have hown : s.vm.findClass RX12 = some m.cls := findClass_of_methodNamed B.named
  have hlocks := B.notSynchronized
  have hin : meth.name = "<init>" := (name_of_methodNamed B.named B.method).1
  subst hsz
  have hD := hD0.self (sz := s.heap.size)
  generalize hAe : va_A [(h, .inr (12, [.int 0, .null, .null, .null]))] s.heap.size = A at hD ⊢
  have hA : ∀ q : Nat, s.heap.size ≤ q → A q := fun q h => by rw [← hAe]; exact Or.inr h
  have hS : va_S A s.heap s.heap [] := va_S.rf
  have hP : va_P D vwCl [(h, .inr (12, [.int 0, .null, .null, .null]))] s.heap := hP
  have hl := lv_entry ([.ref h, .int 8]) (n := 2) (Nat.le_of_ble_eq_true rfl)
  rw [lg_entry_eq]
  generalize (lg_sl ([.ref h, .int 8]) ++ List.replicate (2 - (lg_sl ([.ref h, .int 8])).length) Slot.unset).toArray = ls at hl ⊢
  have hl : lv_has ls 2 [(0, .ref h), (1, .int 8)] := hl
  refine lv_aload_n hx hb dX12_init_0 rfl (lv_at hl 0 rfl) ?_
  refine W.objInit hx hb hown (hgt _ wd_1_190) (hgt _ wd_0_35) (hgt _ wd_0_36) rfl (by rw [hml]; exact hl.1) rfl dX12_init_1 (Nat.le_of_ble_eq_true rfl) (Nat.le_of_ble_eq_true rfl) ?_
  refine W.eq (g2 := F0 m 4 ls []) rfl ?_
  refine lv_aload_n hx hb dX12_init_4 rfl (lv_at hl 0 rfl) ?_
  refine lv_iload_n hx hb dX12_init_5 rfl (lv_at hl 1 rfl) ?_
  refine nw_a (atype := .int) (ty := .int) (t0 := 0) (a0 := (8, .inl (fun _ => 0))) hx hb (hgt _ wd_0_92) rfl hK rfl hP hD hS hA (fun _ => rfl) (by decide) rfl (by decide) (Nat.le_of_ble_eq_true rfl) (Nat.le_of_ble_eq_true rfl) dX12_init_6 (fun q1 H hP hD hS => ?_)
  have hP : va_P D vwCl [(h, .inr (12, [.int 0, .null, .null, .null])), (q1, .inl (cI, 8, .inl (fun _ => 0)))] H := hP
  have hD : va_D A [(h, .inr (12, [.int 0, .null, .null, .null])), (q1, .inl (cI, 8, .inl (fun _ => 0)))] := hD
  refine va_putF (D := D) (ci := 12) (v := .ref q1) (ty := .array .int) (C := RX12) (T := TX12) (N := 4) hx hb hgt iwX12 tyX12 tyX12_ok nmX12 hown hK hP hD hS 0 rfl rfl 1 (Nat.le_of_ble_eq_true rfl) (hgt _ wd_1_195) (fun _ h9 => h9) rfl hin rfl (by decide +kernel) rfl rfl (Nat.le_of_ble_eq_true rfl) dX12_init_8 (fun H locs hP hD hS => ?_)
  have hP : va_P D vwCl [(h, .inr (12, [.int 0, .ref q1, .null, .null])), (q1, .inl (cI, 8, .inl (fun _ => 0)))] H := hP
  have hD : va_D A [(h, .inr (12, [.int 0, .ref q1, .null, .null])), (q1, .inl (cI, 8, .inl (fun _ => 0)))] := hD
  refine lv_aload_n hx hb dX12_init_11 rfl (lv_at hl 0 rfl) ?_
  refine lv_iload_n hx hb dX12_init_12 rfl (lv_at hl 1 rfl) ?_
  refine nw_a (atype := .int) (ty := .int) (t0 := 0) (a0 := (8, .inl (fun _ => 0))) hx hb (hgt _ wd_0_92) rfl hK rfl hP hD hS hA (fun _ => rfl) (by decide) rfl (by decide) (Nat.le_of_ble_eq_true rfl) (Nat.le_of_ble_eq_true rfl) dX12_init_13 (fun q2 H hP hD hS => ?_)
  have hP : va_P D vwCl [(h, .inr (12, [.int 0, .ref q1, .null, .null])), (q1, .inl (cI, 8, .inl (fun _ => 0))), (q2, .inl (cI, 8, .inl (fun _ => 0)))] H := hP
  have hD : va_D A [(h, .inr (12, [.int 0, .ref q1, .null, .null])), (q1, .inl (cI, 8, .inl (fun _ => 0))), (q2, .inl (cI, 8, .inl (fun _ => 0)))] := hD
  refine va_putF (D := D) (ci := 12) (v := .ref q2) (ty := .array .int) (C := RX12) (T := TX12) (N := 4) hx hb hgt iwX12 tyX12 tyX12_ok nmX12 hown hK hP hD hS 0 rfl rfl 2 (Nat.le_of_ble_eq_true rfl) (hgt _ wd_1_198) (fun _ h9 => h9) rfl hin rfl (by decide +kernel) rfl rfl (Nat.le_of_ble_eq_true rfl) dX12_init_15 (fun H locs hP hD hS => ?_)
  have hP : va_P D vwCl [(h, .inr (12, [.int 0, .ref q1, .ref q2, .null])), (q1, .inl (cI, 8, .inl (fun _ => 0))), (q2, .inl (cI, 8, .inl (fun _ => 0)))] H := hP
  have hD : va_D A [(h, .inr (12, [.int 0, .ref q1, .ref q2, .null])), (q1, .inl (cI, 8, .inl (fun _ => 0))), (q2, .inl (cI, 8, .inl (fun _ => 0)))] := hD
  refine lv_aload_n hx hb dX12_init_18 rfl (lv_at hl 0 rfl) ?_
  refine lv_iload_n hx hb dX12_init_19 rfl (lv_at hl 1 rfl) ?_
  refine nw_a (atype := .int) (ty := .int) (t0 := 0) (a0 := (8, .inl (fun _ => 0))) hx hb (hgt _ wd_0_92) rfl hK rfl hP hD hS hA (fun _ => rfl) (by decide) rfl (by decide) (Nat.le_of_ble_eq_true rfl) (Nat.le_of_ble_eq_true rfl) dX12_init_20 (fun q3 H hP hD hS => ?_)
  have hP : va_P D vwCl [(h, .inr (12, [.int 0, .ref q1, .ref q2, .null])), (q1, .inl (cI, 8, .inl (fun _ => 0))), (q2, .inl (cI, 8, .inl (fun _ => 0))), (q3, .inl (cI, 8, .inl (fun _ => 0)))] H := hP
  have hD : va_D A [(h, .inr (12, [.int 0, .ref q1, .ref q2, .null])), (q1, .inl (cI, 8, .inl (fun _ => 0))), (q2, .inl (cI, 8, .inl (fun _ => 0))), (q3, .inl (cI, 8, .inl (fun _ => 0)))] := hD
  refine va_putF (D := D) (ci := 12) (v := .ref q3) (ty := .array .int) (C := RX12) (T := TX12) (N := 4) hx hb hgt iwX12 tyX12 tyX12_ok nmX12 hown hK hP hD hS 0 rfl rfl 3 (Nat.le_of_ble_eq_true rfl) (hgt _ wd_1_202) (fun _ h9 => h9) rfl hin rfl (by decide +kernel) rfl rfl (Nat.le_of_ble_eq_true rfl) dX12_init_22 (fun H locs hP hD hS => ?_)
  have hP : va_P D vwCl [(h, .inr (12, [.int 0, .ref q1, .ref q2, .ref q3])), (q1, .inl (cI, 8, .inl (fun _ => 0))), (q2, .inl (cI, 8, .inl (fun _ => 0))), (q3, .inl (cI, 8, .inl (fun _ => 0)))] H := hP
  have hD : va_D A [(h, .inr (12, [.int 0, .ref q1, .ref q2, .ref q3])), (q1, .inl (cI, 8, .inl (fun _ => 0))), (q2, .inl (cI, 8, .inl (fun _ => 0))), (q3, .inl (cI, 8, .inl (fun _ => 0)))] := hD
  have hP9 := hP.sub (ws' := [(h, .inr (12, [.int 0, .ref q1, .ref q2, .ref q3])), (q1, .inl (cI, 8, .inl (fun _ => 0))), (q2, .inl (cI, 8, .inl (fun _ => 0))), (q3, .inl (cI, 8, .inl (fun _ => 0)))]) [0, 1, 2, 3] rfl
  have hD9 := hD.sub (ws' := [(h, .inr (12, [.int 0, .ref q1, .ref q2, .ref q3])), (q1, .inl (cI, 8, .inl (fun _ => 0))), (q2, .inl (cI, 8, .inl (fun _ => 0))), (q3, .inl (cI, 8, .inl (fun _ => 0)))]) [0, 1, 2, 3] (by decide) rfl
  refine W.widen (k := 3) (n := 24) (Nat.le_of_ble_eq_true rfl) (Nat.le_of_ble_eq_true rfl) ?_
  exact W.vret hx hb hr (fun t ht hW => ⟨⟨(), rfl, trivial, (rl [0, q1, q2, q3]), by rw [ht]; exact hP9, hD9⟩, hS.F ht⟩) hS.2.2 dX12_init_25
set_option maxHeartbeats 4000000 in
set_option maxRecDepth 100000 in
theorem k_Steps_script (l : Launch) (D : va_G) (cI cZ cC cJ : ClassId) (h : Nat) (sz : Nat) : Met l yX12_init wsX12_init ({ frames := 1, cells := 3, slots := 120, locals := 12 }) (va_Pc [.ref h, .int 40] (fun U => U.heap.size = sz ∧ va_P D vwCl [(h, .inr (12, [.int 0, .null, .null, .null]))] U.heap ∧ va_K D vwCl [(cI, .int), (cZ, .boolean), (cC, .char), (cJ, .long)] U ∧ va_D (fun _ => True) [(h, .inr (12, [.int 0, .null, .null, .null]))])) (va_Qv (fun (_ : Unit) => True) (fun _ t => ∃ (r : Nat → Nat), va_P D vwCl [(h, .inr (12, [.int 0, .ref (r 1), .ref (r 2), .ref (r 3)])), ((r 1), .inl (cI, 40, .inl (fun _ => 0))), ((r 2), .inl (cI, 40, .inl (fun _ => 0))), ((r 3), .inl (cI, 40, .inl (fun _ => 0)))] t.heap ∧ va_D (va_A [(h, .inr (12, [.int 0, .null, .null, .null]))] sz) [(h, .inr (12, [.int 0, .ref (r 1), .ref (r 2), .ref (r 3)])), ((r 1), .inl (cI, 40, .inl (fun _ => 0))), ((r 2), .inl (cI, 40, .inl (fun _ => 0))), ((r 3), .inl (cI, 40, .inl (fun _ => 0)))]) (va_A [(h, .inr (12, [.int 0, .null, .null, .null]))] sz)) 3 120 (va_A [(h, .inr (12, [.int 0, .null, .null, .null]))] sz) := by
  refine Met.ofW (cc := cX12_init) (maxL := 2) (ret := none) (by decide) rfl ?_
  intro p e s m args below meth c s₁ B hml hv
  obtain ⟨rfl, hsz, hP, hK, hD0⟩ := hv
  have hx := B.exec
  have hb := B.bytes
  have hr := B.returns
  have hgt := fun w (h : w ∈ GT) => atoms_spec (ws := wsX12_init) B.pre w (List.mem_cons_of_mem _ h)
  have hown : s.vm.findClass RX12 = some m.cls := findClass_of_methodNamed B.named
  have hlocks := B.notSynchronized
  have hin : meth.name = "<init>" := (name_of_methodNamed B.named B.method).1
  subst hsz
  have hD := hD0.self (sz := s.heap.size)
  generalize hAe : va_A [(h, .inr (12, [.int 0, .null, .null, .null]))] s.heap.size = A at hD ⊢
  have hA : ∀ q : Nat, s.heap.size ≤ q → A q := fun q h => by rw [← hAe]; exact Or.inr h
  have hS : va_S A s.heap s.heap [] := va_S.rf
  have hP : va_P D vwCl [(h, .inr (12, [.int 0, .null, .null, .null]))] s.heap := hP
  have hl := lv_entry ([.ref h, .int 40]) (n := 2) (Nat.le_of_ble_eq_true rfl)
  rw [lg_entry_eq]
  generalize (lg_sl ([.ref h, .int 40]) ++ List.replicate (2 - (lg_sl ([.ref h, .int 40])).length) Slot.unset).toArray = ls at hl ⊢
  have hl : lv_has ls 2 [(0, .ref h), (1, .int 40)] := hl
  refine lv_aload_n hx hb dX12_init_0 rfl (lv_at hl 0 rfl) ?_
  refine W.objInit hx hb hown (hgt _ wd_1_190) (hgt _ wd_0_35) (hgt _ wd_0_36) rfl (by rw [hml]; exact hl.1) rfl dX12_init_1 (Nat.le_of_ble_eq_true rfl) (Nat.le_of_ble_eq_true rfl) ?_
  refine W.eq (g2 := F0 m 4 ls []) rfl ?_
  refine lv_aload_n hx hb dX12_init_4 rfl (lv_at hl 0 rfl) ?_
  refine lv_iload_n hx hb dX12_init_5 rfl (lv_at hl 1 rfl) ?_
  refine nw_a (atype := .int) (ty := .int) (t0 := 0) (a0 := (40, .inl (fun _ => 0))) hx hb (hgt _ wd_0_92) rfl hK rfl hP hD hS hA (fun _ => rfl) (by decide) rfl (by decide) (Nat.le_of_ble_eq_true rfl) (Nat.le_of_ble_eq_true rfl) dX12_init_6 (fun q1 H hP hD hS => ?_)
  have hP : va_P D vwCl [(h, .inr (12, [.int 0, .null, .null, .null])), (q1, .inl (cI, 40, .inl (fun _ => 0)))] H := hP
  have hD : va_D A [(h, .inr (12, [.int 0, .null, .null, .null])), (q1, .inl (cI, 40, .inl (fun _ => 0)))] := hD
  refine va_putF (D := D) (ci := 12) (v := .ref q1) (ty := .array .int) (C := RX12) (T := TX12) (N := 4) hx hb hgt iwX12 tyX12 tyX12_ok nmX12 hown hK hP hD hS 0 rfl rfl 1 (Nat.le_of_ble_eq_true rfl) (hgt _ wd_1_195) (fun _ h9 => h9) rfl hin rfl (by decide +kernel) rfl rfl (Nat.le_of_ble_eq_true rfl) dX12_init_8 (fun H locs hP hD hS => ?_)
  have hP : va_P D vwCl [(h, .inr (12, [.int 0, .ref q1, .null, .null])), (q1, .inl (cI, 40, .inl (fun _ => 0)))] H := hP
  have hD : va_D A [(h, .inr (12, [.int 0, .ref q1, .null, .null])), (q1, .inl (cI, 40, .inl (fun _ => 0)))] := hD
  refine lv_aload_n hx hb dX12_init_11 rfl (lv_at hl 0 rfl) ?_
  refine lv_iload_n hx hb dX12_init_12 rfl (lv_at hl 1 rfl) ?_
  refine nw_a (atype := .int) (ty := .int) (t0 := 0) (a0 := (40, .inl (fun _ => 0))) hx hb (hgt _ wd_0_92) rfl hK rfl hP hD hS hA (fun _ => rfl) (by decide) rfl (by decide) (Nat.le_of_ble_eq_true rfl) (Nat.le_of_ble_eq_true rfl) dX12_init_13 (fun q2 H hP hD hS => ?_)
  have hP : va_P D vwCl [(h, .inr (12, [.int 0, .ref q1, .null, .null])), (q1, .inl (cI, 40, .inl (fun _ => 0))), (q2, .inl (cI, 40, .inl (fun _ => 0)))] H := hP
  have hD : va_D A [(h, .inr (12, [.int 0, .ref q1, .null, .null])), (q1, .inl (cI, 40, .inl (fun _ => 0))), (q2, .inl (cI, 40, .inl (fun _ => 0)))] := hD
  refine va_putF (D := D) (ci := 12) (v := .ref q2) (ty := .array .int) (C := RX12) (T := TX12) (N := 4) hx hb hgt iwX12 tyX12 tyX12_ok nmX12 hown hK hP hD hS 0 rfl rfl 2 (Nat.le_of_ble_eq_true rfl) (hgt _ wd_1_198) (fun _ h9 => h9) rfl hin rfl (by decide +kernel) rfl rfl (Nat.le_of_ble_eq_true rfl) dX12_init_15 (fun H locs hP hD hS => ?_)
  have hP : va_P D vwCl [(h, .inr (12, [.int 0, .ref q1, .ref q2, .null])), (q1, .inl (cI, 40, .inl (fun _ => 0))), (q2, .inl (cI, 40, .inl (fun _ => 0)))] H := hP
  have hD : va_D A [(h, .inr (12, [.int 0, .ref q1, .ref q2, .null])), (q1, .inl (cI, 40, .inl (fun _ => 0))), (q2, .inl (cI, 40, .inl (fun _ => 0)))] := hD
  refine lv_aload_n hx hb dX12_init_18 rfl (lv_at hl 0 rfl) ?_
  refine lv_iload_n hx hb dX12_init_19 rfl (lv_at hl 1 rfl) ?_
  refine nw_a (atype := .int) (ty := .int) (t0 := 0) (a0 := (40, .inl (fun _ => 0))) hx hb (hgt _ wd_0_92) rfl hK rfl hP hD hS hA (fun _ => rfl) (by decide) rfl (by decide) (Nat.le_of_ble_eq_true rfl) (Nat.le_of_ble_eq_true rfl) dX12_init_20 (fun q3 H hP hD hS => ?_)
  have hP : va_P D vwCl [(h, .inr (12, [.int 0, .ref q1, .ref q2, .null])), (q1, .inl (cI, 40, .inl (fun _ => 0))), (q2, .inl (cI, 40, .inl (fun _ => 0))), (q3, .inl (cI, 40, .inl (fun _ => 0)))] H := hP
  have hD : va_D A [(h, .inr (12, [.int 0, .ref q1, .ref q2, .null])), (q1, .inl (cI, 40, .inl (fun _ => 0))), (q2, .inl (cI, 40, .inl (fun _ => 0))), (q3, .inl (cI, 40, .inl (fun _ => 0)))] := hD
  refine va_putF (D := D) (ci := 12) (v := .ref q3) (ty := .array .int) (C := RX12) (T := TX12) (N := 4) hx hb hgt iwX12 tyX12 tyX12_ok nmX12 hown hK hP hD hS 0 rfl rfl 3 (Nat.le_of_ble_eq_true rfl) (hgt _ wd_1_202) (fun _ h9 => h9) rfl hin rfl (by decide +kernel) rfl rfl (Nat.le_of_ble_eq_true rfl) dX12_init_22 (fun H locs hP hD hS => ?_)
  have hP : va_P D vwCl [(h, .inr (12, [.int 0, .ref q1, .ref q2, .ref q3])), (q1, .inl (cI, 40, .inl (fun _ => 0))), (q2, .inl (cI, 40, .inl (fun _ => 0))), (q3, .inl (cI, 40, .inl (fun _ => 0)))] H := hP
  have hD : va_D A [(h, .inr (12, [.int 0, .ref q1, .ref q2, .ref q3])), (q1, .inl (cI, 40, .inl (fun _ => 0))), (q2, .inl (cI, 40, .inl (fun _ => 0))), (q3, .inl (cI, 40, .inl (fun _ => 0)))] := hD
  have hP9 := hP.sub (ws' := [(h, .inr (12, [.int 0, .ref q1, .ref q2, .ref q3])), (q1, .inl (cI, 40, .inl (fun _ => 0))), (q2, .inl (cI, 40, .inl (fun _ => 0))), (q3, .inl (cI, 40, .inl (fun _ => 0)))]) [0, 1, 2, 3] rfl
  have hD9 := hD.sub (ws' := [(h, .inr (12, [.int 0, .ref q1, .ref q2, .ref q3])), (q1, .inl (cI, 40, .inl (fun _ => 0))), (q2, .inl (cI, 40, .inl (fun _ => 0))), (q3, .inl (cI, 40, .inl (fun _ => 0)))]) [0, 1, 2, 3] (by decide) rfl
  refine W.widen (k := 3) (n := 120) (Nat.le_of_ble_eq_true rfl) (Nat.le_of_ble_eq_true rfl) ?_
  exact W.vret hx hb hr (fun t ht hW => ⟨⟨(), rfl, trivial, (rl [0, q1, q2, q3]), by rw [ht]; exact hP9, hD9⟩, hS.F ht⟩) hS.2.2 dX12_init_25
set_option maxHeartbeats 4000000 in
set_option maxRecDepth 100000 in
theorem k_Draft (l : Launch) (D : va_G) (cI cZ cC cJ : ClassId) (s0 : State) (qs qv : Nat) (fb : Nat → Value) (hSt : StrF s0 qs qv fb) (hNw : NwF s0) (cA : ClassId) (hAg : AoG s0 cA cI) (h : Nat) (sz : Nat) : Met l yX4_init wsX4_init ({ frames := 2, cells := 19, slots := 1055, locals := 32 }) (va_Pc [.ref h] (fun U => U.heap.size = sz ∧ va_P D vwCl [(h, .inr (4, [.int 0, .null, .null, .null, .null, .null, .int 0, .null, .null, .null, .null, .null, .null, .null, .null]))] U.heap ∧ va_K D vwCl [(cI, .int), (cZ, .boolean), (cC, .char), (cJ, .long)] U ∧ va_D (fun q => s0.heap.size ≤ q) [(h, .inr (4, [.int 0, .null, .null, .null, .null, .null, .int 0, .null, .null, .null, .null, .null, .null, .null, .null]))] ∧ Old s0 U)) (va_Qv (fun (_ : Unit) => True) (fun _ t => ∃ (r : Nat → Nat), va_P D vwCl [(h, .inr (4, [.int 0, .ref (r 1), .ref (r 2), .ref (r 3), .ref (r 4), .ref (r 5), .int 0, .ref (r 6), .ref (r 7), .ref (r 8), .ref (r 9), .ref (r 10), .ref (r 11), .ref (r 12), .ref (r 13)])), ((r 1), .inl (cI, 16, .inl (fun _ => 0))), ((r 2), .inl (cI, 16, .inl (fun _ => 0))), ((r 3), .inl (cI, 16, .inl (fun _ => 0))), ((r 4), .inl (cI, 16, .inl (fun _ => 0))), ((r 5), .inl (cI, 16, .inl (fun _ => 0))), ((r 6), .inl (cI, 128, .inl (fun _ => 0))), ((r 7), .inl (cI, 128, .inl (fun _ => 0))), ((r 8), .inl (cI, 128, .inl (fun _ => 0))), ((r 9), .inl (cI, 128, .inl (fun _ => 0))), ((r 10), .inl (cI, 128, .inl (fun _ => 0))), ((r 11), .inl (cI, 128, .inl (fun _ => 0))), ((r 12), .inl (cI, 128, .inl (fun _ => 0))), ((r 13), .inr (11, [.int 0, .ref (r 14), .ref (r 15), .ref (r 16), .ref (r 17), .ref (r 18), .ref (r 19)])), ((r 14), .inl (cI, 12, .inl (fun _ => 0))), ((r 15), .inl (cI, 12, .inl (fun _ => 0))), ((r 16), .inl (cI, 12, .inl (fun _ => 0))), ((r 17), .inl (cI, 12, .inl (fun _ => 0))), ((r 18), .inl (cI, 12, .inl (fun _ => 0))), ((r 19), .inl (cI, 12, .inl (fun _ => 0)))] t.heap ∧ va_D (va_A [(h, .inr (4, [.int 0, .null, .null, .null, .null, .null, .int 0, .null, .null, .null, .null, .null, .null, .null, .null]))] sz) [(h, .inr (4, [.int 0, .ref (r 1), .ref (r 2), .ref (r 3), .ref (r 4), .ref (r 5), .int 0, .ref (r 6), .ref (r 7), .ref (r 8), .ref (r 9), .ref (r 10), .ref (r 11), .ref (r 12), .ref (r 13)])), ((r 1), .inl (cI, 16, .inl (fun _ => 0))), ((r 2), .inl (cI, 16, .inl (fun _ => 0))), ((r 3), .inl (cI, 16, .inl (fun _ => 0))), ((r 4), .inl (cI, 16, .inl (fun _ => 0))), ((r 5), .inl (cI, 16, .inl (fun _ => 0))), ((r 6), .inl (cI, 128, .inl (fun _ => 0))), ((r 7), .inl (cI, 128, .inl (fun _ => 0))), ((r 8), .inl (cI, 128, .inl (fun _ => 0))), ((r 9), .inl (cI, 128, .inl (fun _ => 0))), ((r 10), .inl (cI, 128, .inl (fun _ => 0))), ((r 11), .inl (cI, 128, .inl (fun _ => 0))), ((r 12), .inl (cI, 128, .inl (fun _ => 0))), ((r 13), .inr (11, [.int 0, .ref (r 14), .ref (r 15), .ref (r 16), .ref (r 17), .ref (r 18), .ref (r 19)])), ((r 14), .inl (cI, 12, .inl (fun _ => 0))), ((r 15), .inl (cI, 12, .inl (fun _ => 0))), ((r 16), .inl (cI, 12, .inl (fun _ => 0))), ((r 17), .inl (cI, 12, .inl (fun _ => 0))), ((r 18), .inl (cI, 12, .inl (fun _ => 0))), ((r 19), .inl (cI, 12, .inl (fun _ => 0)))]) (va_A [(h, .inr (4, [.int 0, .null, .null, .null, .null, .null, .int 0, .null, .null, .null, .null, .null, .null, .null, .null]))] sz)) 19 1055 (va_A [(h, .inr (4, [.int 0, .null, .null, .null, .null, .null, .int 0, .null, .null, .null, .null, .null, .null, .null, .null]))] sz) := by
  refine Met.ofW (cc := cX4_init) (maxL := 1) (ret := none) (by decide) rfl ?_
  intro p e s m args below meth c s₁ B hml hv
  obtain ⟨rfl, hsz, hP, hK, hD0, hO⟩ := hv
  have hx := B.exec
  have hb := B.bytes
  have hr := B.returns
  have hgt := fun w (h : w ∈ GT) => atoms_spec (ws := wsX4_init) B.pre w (List.mem_cons_of_mem _ h)
  have hown : s.vm.findClass RX4 = some m.cls := findClass_of_methodNamed B.named
  have hlocks := B.notSynchronized
  have hin : meth.name = "<init>" := (name_of_methodNamed B.named B.method).1
  subst hsz
  have hD := hD0.self (sz := s.heap.size)
  generalize hAe : va_A [(h, .inr (4, [.int 0, .null, .null, .null, .null, .null, .int 0, .null, .null, .null, .null, .null, .null, .null, .null]))] s.heap.size = A at hD ⊢
  have hA : ∀ q : Nat, s.heap.size ≤ q → A q := fun q h => by rw [← hAe]; exact Or.inr h
  have hAO : ∀ q : Nat, A q → s0.heap.size ≤ q := fun q h => by rw [← hAe] at h; exact old_in hD0 hO h
  have hS : va_S A s.heap s.heap [] := va_S.rf
  have hP : va_P D vwCl [(h, .inr (4, [.int 0, .null, .null, .null, .null, .null, .int 0, .null, .null, .null, .null, .null, .null, .null, .null]))] s.heap := hP
  have hl := lv_entry ([.ref h]) (n := 1) (Nat.le_of_ble_eq_true rfl)
  rw [lg_entry_eq]
  generalize (lg_sl ([.ref h]) ++ List.replicate (1 - (lg_sl ([.ref h])).length) Slot.unset).toArray = ls at hl ⊢
  have hl : lv_has ls 1 [(0, .ref h)] := hl
  refine lv_aload_n hx hb dX4_init_0 rfl (lv_at hl 0 rfl) ?_
  refine W.objInit hx hb hown (hgt _ wd_0_42) (hgt _ wd_0_35) (hgt _ wd_0_36) rfl (by rw [hml]; exact hl.1) rfl dX4_init_1 (Nat.le_of_ble_eq_true rfl) (Nat.le_of_ble_eq_true rfl) ?_
  refine W.eq (g2 := F0 m 4 ls []) rfl ?_
  refine lv_aload_n hx hb dX4_init_4 rfl (lv_at hl 0 rfl) ?_
  refine lv_bipush (v := 16) hx hb dX4_init_5 (by decide) ?_
  refine nw_a (atype := .int) (ty := .int) (t0 := 0) (a0 := (16, .inl (fun _ => 0))) hx hb (hgt _ wd_0_92) rfl hK rfl hP hD hS hA (fun _ => rfl) (by decide) rfl (by decide) (Nat.le_of_ble_eq_true rfl) (Nat.le_of_ble_eq_true rfl) dX4_init_7 (fun q1 H hP hD hS => ?_)
  have hP : va_P D vwCl [(h, .inr (4, [.int 0, .null, .null, .null, .null, .null, .int 0, .null, .null, .null, .null, .null, .null, .null, .null])), (q1, .inl (cI, 16, .inl (fun _ => 0)))] H := hP
  have hD : va_D A [(h, .inr (4, [.int 0, .null, .null, .null, .null, .null, .int 0, .null, .null, .null, .null, .null, .null, .null, .null])), (q1, .inl (cI, 16, .inl (fun _ => 0)))] := hD
  refine va_putF (D := D) (ci := 4) (v := .ref q1) (ty := .array .int) (C := RX4) (T := TX4) (N := 15) hx hb hgt iwX4 tyX4 tyX4_ok nmX4 hown hK hP hD hS 0 rfl rfl 1 (Nat.le_of_ble_eq_true rfl) (hgt _ wd_0_97) (fun _ h9 => h9) rfl hin rfl (by decide +kernel) rfl rfl (Nat.le_of_ble_eq_true rfl) dX4_init_9 (fun H locs hP hD hS => ?_)
  have hP : va_P D vwCl [(h, .inr (4, [.int 0, .ref q1, .null, .null, .null, .null, .int 0, .null, .null, .null, .null, .null, .null, .null, .null])), (q1, .inl (cI, 16, .inl (fun _ => 0)))] H := hP
  have hD : va_D A [(h, .inr (4, [.int 0, .ref q1, .null, .null, .null, .null, .int 0, .null, .null, .null, .null, .null, .null, .null, .null])), (q1, .inl (cI, 16, .inl (fun _ => 0)))] := hD
  refine lv_aload_n hx hb dX4_init_12 rfl (lv_at hl 0 rfl) ?_
  refine lv_bipush (v := 16) hx hb dX4_init_13 (by decide) ?_
  refine nw_a (atype := .int) (ty := .int) (t0 := 0) (a0 := (16, .inl (fun _ => 0))) hx hb (hgt _ wd_0_92) rfl hK rfl hP hD hS hA (fun _ => rfl) (by decide) rfl (by decide) (Nat.le_of_ble_eq_true rfl) (Nat.le_of_ble_eq_true rfl) dX4_init_15 (fun q2 H hP hD hS => ?_)
  have hP : va_P D vwCl [(h, .inr (4, [.int 0, .ref q1, .null, .null, .null, .null, .int 0, .null, .null, .null, .null, .null, .null, .null, .null])), (q1, .inl (cI, 16, .inl (fun _ => 0))), (q2, .inl (cI, 16, .inl (fun _ => 0)))] H := hP
  have hD : va_D A [(h, .inr (4, [.int 0, .ref q1, .null, .null, .null, .null, .int 0, .null, .null, .null, .null, .null, .null, .null, .null])), (q1, .inl (cI, 16, .inl (fun _ => 0))), (q2, .inl (cI, 16, .inl (fun _ => 0)))] := hD
  refine va_putF (D := D) (ci := 4) (v := .ref q2) (ty := .array .int) (C := RX4) (T := TX4) (N := 15) hx hb hgt iwX4 tyX4 tyX4_ok nmX4 hown hK hP hD hS 0 rfl rfl 2 (Nat.le_of_ble_eq_true rfl) (hgt _ wd_0_100) (fun _ h9 => h9) rfl hin rfl (by decide +kernel) rfl rfl (Nat.le_of_ble_eq_true rfl) dX4_init_17 (fun H locs hP hD hS => ?_)
  have hP : va_P D vwCl [(h, .inr (4, [.int 0, .ref q1, .ref q2, .null, .null, .null, .int 0, .null, .null, .null, .null, .null, .null, .null, .null])), (q1, .inl (cI, 16, .inl (fun _ => 0))), (q2, .inl (cI, 16, .inl (fun _ => 0)))] H := hP
  have hD : va_D A [(h, .inr (4, [.int 0, .ref q1, .ref q2, .null, .null, .null, .int 0, .null, .null, .null, .null, .null, .null, .null, .null])), (q1, .inl (cI, 16, .inl (fun _ => 0))), (q2, .inl (cI, 16, .inl (fun _ => 0)))] := hD
  refine lv_aload_n hx hb dX4_init_20 rfl (lv_at hl 0 rfl) ?_
  refine lv_bipush (v := 16) hx hb dX4_init_21 (by decide) ?_
  refine nw_a (atype := .int) (ty := .int) (t0 := 0) (a0 := (16, .inl (fun _ => 0))) hx hb (hgt _ wd_0_92) rfl hK rfl hP hD hS hA (fun _ => rfl) (by decide) rfl (by decide) (Nat.le_of_ble_eq_true rfl) (Nat.le_of_ble_eq_true rfl) dX4_init_23 (fun q3 H hP hD hS => ?_)
  have hP : va_P D vwCl [(h, .inr (4, [.int 0, .ref q1, .ref q2, .null, .null, .null, .int 0, .null, .null, .null, .null, .null, .null, .null, .null])), (q1, .inl (cI, 16, .inl (fun _ => 0))), (q2, .inl (cI, 16, .inl (fun _ => 0))), (q3, .inl (cI, 16, .inl (fun _ => 0)))] H := hP
  have hD : va_D A [(h, .inr (4, [.int 0, .ref q1, .ref q2, .null, .null, .null, .int 0, .null, .null, .null, .null, .null, .null, .null, .null])), (q1, .inl (cI, 16, .inl (fun _ => 0))), (q2, .inl (cI, 16, .inl (fun _ => 0))), (q3, .inl (cI, 16, .inl (fun _ => 0)))] := hD
  refine va_putF (D := D) (ci := 4) (v := .ref q3) (ty := .array .int) (C := RX4) (T := TX4) (N := 15) hx hb hgt iwX4 tyX4 tyX4_ok nmX4 hown hK hP hD hS 0 rfl rfl 3 (Nat.le_of_ble_eq_true rfl) (hgt _ wd_0_104) (fun _ h9 => h9) rfl hin rfl (by decide +kernel) rfl rfl (Nat.le_of_ble_eq_true rfl) dX4_init_25 (fun H locs hP hD hS => ?_)
  have hP : va_P D vwCl [(h, .inr (4, [.int 0, .ref q1, .ref q2, .ref q3, .null, .null, .int 0, .null, .null, .null, .null, .null, .null, .null, .null])), (q1, .inl (cI, 16, .inl (fun _ => 0))), (q2, .inl (cI, 16, .inl (fun _ => 0))), (q3, .inl (cI, 16, .inl (fun _ => 0)))] H := hP
  have hD : va_D A [(h, .inr (4, [.int 0, .ref q1, .ref q2, .ref q3, .null, .null, .int 0, .null, .null, .null, .null, .null, .null, .null, .null])), (q1, .inl (cI, 16, .inl (fun _ => 0))), (q2, .inl (cI, 16, .inl (fun _ => 0))), (q3, .inl (cI, 16, .inl (fun _ => 0)))] := hD
  refine lv_aload_n hx hb dX4_init_28 rfl (lv_at hl 0 rfl) ?_
  refine lv_bipush (v := 16) hx hb dX4_init_29 (by decide) ?_
  refine nw_a (atype := .int) (ty := .int) (t0 := 0) (a0 := (16, .inl (fun _ => 0))) hx hb (hgt _ wd_0_92) rfl hK rfl hP hD hS hA (fun _ => rfl) (by decide) rfl (by decide) (Nat.le_of_ble_eq_true rfl) (Nat.le_of_ble_eq_true rfl) dX4_init_31 (fun q4 H hP hD hS => ?_)
  have hP : va_P D vwCl [(h, .inr (4, [.int 0, .ref q1, .ref q2, .ref q3, .null, .null, .int 0, .null, .null, .null, .null, .null, .null, .null, .null])), (q1, .inl (cI, 16, .inl (fun _ => 0))), (q2, .inl (cI, 16, .inl (fun _ => 0))), (q3, .inl (cI, 16, .inl (fun _ => 0))), (q4, .inl (cI, 16, .inl (fun _ => 0)))] H := hP
  have hD : va_D A [(h, .inr (4, [.int 0, .ref q1, .ref q2, .ref q3, .null, .null, .int 0, .null, .null, .null, .null, .null, .null, .null, .null])), (q1, .inl (cI, 16, .inl (fun _ => 0))), (q2, .inl (cI, 16, .inl (fun _ => 0))), (q3, .inl (cI, 16, .inl (fun _ => 0))), (q4, .inl (cI, 16, .inl (fun _ => 0)))] := hD
  refine va_putF (D := D) (ci := 4) (v := .ref q4) (ty := .array .int) (C := RX4) (T := TX4) (N := 15) hx hb hgt iwX4 tyX4 tyX4_ok nmX4 hown hK hP hD hS 0 rfl rfl 4 (Nat.le_of_ble_eq_true rfl) (hgt _ wd_0_108) (fun _ h9 => h9) rfl hin rfl (by decide +kernel) rfl rfl (Nat.le_of_ble_eq_true rfl) dX4_init_33 (fun H locs hP hD hS => ?_)
  have hP : va_P D vwCl [(h, .inr (4, [.int 0, .ref q1, .ref q2, .ref q3, .ref q4, .null, .int 0, .null, .null, .null, .null, .null, .null, .null, .null])), (q1, .inl (cI, 16, .inl (fun _ => 0))), (q2, .inl (cI, 16, .inl (fun _ => 0))), (q3, .inl (cI, 16, .inl (fun _ => 0))), (q4, .inl (cI, 16, .inl (fun _ => 0)))] H := hP
  have hD : va_D A [(h, .inr (4, [.int 0, .ref q1, .ref q2, .ref q3, .ref q4, .null, .int 0, .null, .null, .null, .null, .null, .null, .null, .null])), (q1, .inl (cI, 16, .inl (fun _ => 0))), (q2, .inl (cI, 16, .inl (fun _ => 0))), (q3, .inl (cI, 16, .inl (fun _ => 0))), (q4, .inl (cI, 16, .inl (fun _ => 0)))] := hD
  refine lv_aload_n hx hb dX4_init_36 rfl (lv_at hl 0 rfl) ?_
  refine lv_bipush (v := 16) hx hb dX4_init_37 (by decide) ?_
  refine nw_a (atype := .int) (ty := .int) (t0 := 0) (a0 := (16, .inl (fun _ => 0))) hx hb (hgt _ wd_0_92) rfl hK rfl hP hD hS hA (fun _ => rfl) (by decide) rfl (by decide) (Nat.le_of_ble_eq_true rfl) (Nat.le_of_ble_eq_true rfl) dX4_init_39 (fun q5 H hP hD hS => ?_)
  have hP : va_P D vwCl [(h, .inr (4, [.int 0, .ref q1, .ref q2, .ref q3, .ref q4, .null, .int 0, .null, .null, .null, .null, .null, .null, .null, .null])), (q1, .inl (cI, 16, .inl (fun _ => 0))), (q2, .inl (cI, 16, .inl (fun _ => 0))), (q3, .inl (cI, 16, .inl (fun _ => 0))), (q4, .inl (cI, 16, .inl (fun _ => 0))), (q5, .inl (cI, 16, .inl (fun _ => 0)))] H := hP
  have hD : va_D A [(h, .inr (4, [.int 0, .ref q1, .ref q2, .ref q3, .ref q4, .null, .int 0, .null, .null, .null, .null, .null, .null, .null, .null])), (q1, .inl (cI, 16, .inl (fun _ => 0))), (q2, .inl (cI, 16, .inl (fun _ => 0))), (q3, .inl (cI, 16, .inl (fun _ => 0))), (q4, .inl (cI, 16, .inl (fun _ => 0))), (q5, .inl (cI, 16, .inl (fun _ => 0)))] := hD
  refine va_putF (D := D) (ci := 4) (v := .ref q5) (ty := .array .int) (C := RX4) (T := TX4) (N := 15) hx hb hgt iwX4 tyX4 tyX4_ok nmX4 hown hK hP hD hS 0 rfl rfl 5 (Nat.le_of_ble_eq_true rfl) (hgt _ wd_0_111) (fun _ h9 => h9) rfl hin rfl (by decide +kernel) rfl rfl (Nat.le_of_ble_eq_true rfl) dX4_init_41 (fun H locs hP hD hS => ?_)
  have hP : va_P D vwCl [(h, .inr (4, [.int 0, .ref q1, .ref q2, .ref q3, .ref q4, .ref q5, .int 0, .null, .null, .null, .null, .null, .null, .null, .null])), (q1, .inl (cI, 16, .inl (fun _ => 0))), (q2, .inl (cI, 16, .inl (fun _ => 0))), (q3, .inl (cI, 16, .inl (fun _ => 0))), (q4, .inl (cI, 16, .inl (fun _ => 0))), (q5, .inl (cI, 16, .inl (fun _ => 0)))] H := hP
  have hD : va_D A [(h, .inr (4, [.int 0, .ref q1, .ref q2, .ref q3, .ref q4, .ref q5, .int 0, .null, .null, .null, .null, .null, .null, .null, .null])), (q1, .inl (cI, 16, .inl (fun _ => 0))), (q2, .inl (cI, 16, .inl (fun _ => 0))), (q3, .inl (cI, 16, .inl (fun _ => 0))), (q4, .inl (cI, 16, .inl (fun _ => 0))), (q5, .inl (cI, 16, .inl (fun _ => 0)))] := hD
  refine lv_aload_n hx hb dX4_init_44 rfl (lv_at hl 0 rfl) ?_
  refine lv_sipush (v := 128) hx hb dX4_init_45 (by decide) ?_
  refine nw_a (atype := .int) (ty := .int) (t0 := 0) (a0 := (128, .inl (fun _ => 0))) hx hb (hgt _ wd_0_92) rfl hK rfl hP hD hS hA (fun _ => rfl) (by decide) rfl (by decide) (Nat.le_of_ble_eq_true rfl) (Nat.le_of_ble_eq_true rfl) dX4_init_48 (fun q6 H hP hD hS => ?_)
  have hP : va_P D vwCl [(h, .inr (4, [.int 0, .ref q1, .ref q2, .ref q3, .ref q4, .ref q5, .int 0, .null, .null, .null, .null, .null, .null, .null, .null])), (q1, .inl (cI, 16, .inl (fun _ => 0))), (q2, .inl (cI, 16, .inl (fun _ => 0))), (q3, .inl (cI, 16, .inl (fun _ => 0))), (q4, .inl (cI, 16, .inl (fun _ => 0))), (q5, .inl (cI, 16, .inl (fun _ => 0))), (q6, .inl (cI, 128, .inl (fun _ => 0)))] H := hP
  have hD : va_D A [(h, .inr (4, [.int 0, .ref q1, .ref q2, .ref q3, .ref q4, .ref q5, .int 0, .null, .null, .null, .null, .null, .null, .null, .null])), (q1, .inl (cI, 16, .inl (fun _ => 0))), (q2, .inl (cI, 16, .inl (fun _ => 0))), (q3, .inl (cI, 16, .inl (fun _ => 0))), (q4, .inl (cI, 16, .inl (fun _ => 0))), (q5, .inl (cI, 16, .inl (fun _ => 0))), (q6, .inl (cI, 128, .inl (fun _ => 0)))] := hD
  refine va_putF (D := D) (ci := 4) (v := .ref q6) (ty := .array .int) (C := RX4) (T := TX4) (N := 15) hx hb hgt iwX4 tyX4 tyX4_ok nmX4 hown hK hP hD hS 0 rfl rfl 7 (Nat.le_of_ble_eq_true rfl) (hgt _ wd_0_119) (fun _ h9 => h9) rfl hin rfl (by decide +kernel) rfl rfl (Nat.le_of_ble_eq_true rfl) dX4_init_50 (fun H locs hP hD hS => ?_)
  have hP : va_P D vwCl [(h, .inr (4, [.int 0, .ref q1, .ref q2, .ref q3, .ref q4, .ref q5, .int 0, .ref q6, .null, .null, .null, .null, .null, .null, .null])), (q1, .inl (cI, 16, .inl (fun _ => 0))), (q2, .inl (cI, 16, .inl (fun _ => 0))), (q3, .inl (cI, 16, .inl (fun _ => 0))), (q4, .inl (cI, 16, .inl (fun _ => 0))), (q5, .inl (cI, 16, .inl (fun _ => 0))), (q6, .inl (cI, 128, .inl (fun _ => 0)))] H := hP
  have hD : va_D A [(h, .inr (4, [.int 0, .ref q1, .ref q2, .ref q3, .ref q4, .ref q5, .int 0, .ref q6, .null, .null, .null, .null, .null, .null, .null])), (q1, .inl (cI, 16, .inl (fun _ => 0))), (q2, .inl (cI, 16, .inl (fun _ => 0))), (q3, .inl (cI, 16, .inl (fun _ => 0))), (q4, .inl (cI, 16, .inl (fun _ => 0))), (q5, .inl (cI, 16, .inl (fun _ => 0))), (q6, .inl (cI, 128, .inl (fun _ => 0)))] := hD
  refine lv_aload_n hx hb dX4_init_53 rfl (lv_at hl 0 rfl) ?_
  refine lv_sipush (v := 128) hx hb dX4_init_54 (by decide) ?_
  refine nw_a (atype := .int) (ty := .int) (t0 := 0) (a0 := (128, .inl (fun _ => 0))) hx hb (hgt _ wd_0_92) rfl hK rfl hP hD hS hA (fun _ => rfl) (by decide) rfl (by decide) (Nat.le_of_ble_eq_true rfl) (Nat.le_of_ble_eq_true rfl) dX4_init_57 (fun q7 H hP hD hS => ?_)
  have hP : va_P D vwCl [(h, .inr (4, [.int 0, .ref q1, .ref q2, .ref q3, .ref q4, .ref q5, .int 0, .ref q6, .null, .null, .null, .null, .null, .null, .null])), (q1, .inl (cI, 16, .inl (fun _ => 0))), (q2, .inl (cI, 16, .inl (fun _ => 0))), (q3, .inl (cI, 16, .inl (fun _ => 0))), (q4, .inl (cI, 16, .inl (fun _ => 0))), (q5, .inl (cI, 16, .inl (fun _ => 0))), (q6, .inl (cI, 128, .inl (fun _ => 0))), (q7, .inl (cI, 128, .inl (fun _ => 0)))] H := hP
  have hD : va_D A [(h, .inr (4, [.int 0, .ref q1, .ref q2, .ref q3, .ref q4, .ref q5, .int 0, .ref q6, .null, .null, .null, .null, .null, .null, .null])), (q1, .inl (cI, 16, .inl (fun _ => 0))), (q2, .inl (cI, 16, .inl (fun _ => 0))), (q3, .inl (cI, 16, .inl (fun _ => 0))), (q4, .inl (cI, 16, .inl (fun _ => 0))), (q5, .inl (cI, 16, .inl (fun _ => 0))), (q6, .inl (cI, 128, .inl (fun _ => 0))), (q7, .inl (cI, 128, .inl (fun _ => 0)))] := hD
  refine va_putF (D := D) (ci := 4) (v := .ref q7) (ty := .array .int) (C := RX4) (T := TX4) (N := 15) hx hb hgt iwX4 tyX4 tyX4_ok nmX4 hown hK hP hD hS 0 rfl rfl 8 (Nat.le_of_ble_eq_true rfl) (hgt _ wd_0_123) (fun _ h9 => h9) rfl hin rfl (by decide +kernel) rfl rfl (Nat.le_of_ble_eq_true rfl) dX4_init_59 (fun H locs hP hD hS => ?_)
  have hP : va_P D vwCl [(h, .inr (4, [.int 0, .ref q1, .ref q2, .ref q3, .ref q4, .ref q5, .int 0, .ref q6, .ref q7, .null, .null, .null, .null, .null, .null])), (q1, .inl (cI, 16, .inl (fun _ => 0))), (q2, .inl (cI, 16, .inl (fun _ => 0))), (q3, .inl (cI, 16, .inl (fun _ => 0))), (q4, .inl (cI, 16, .inl (fun _ => 0))), (q5, .inl (cI, 16, .inl (fun _ => 0))), (q6, .inl (cI, 128, .inl (fun _ => 0))), (q7, .inl (cI, 128, .inl (fun _ => 0)))] H := hP
  have hD : va_D A [(h, .inr (4, [.int 0, .ref q1, .ref q2, .ref q3, .ref q4, .ref q5, .int 0, .ref q6, .ref q7, .null, .null, .null, .null, .null, .null])), (q1, .inl (cI, 16, .inl (fun _ => 0))), (q2, .inl (cI, 16, .inl (fun _ => 0))), (q3, .inl (cI, 16, .inl (fun _ => 0))), (q4, .inl (cI, 16, .inl (fun _ => 0))), (q5, .inl (cI, 16, .inl (fun _ => 0))), (q6, .inl (cI, 128, .inl (fun _ => 0))), (q7, .inl (cI, 128, .inl (fun _ => 0)))] := hD
  refine lv_aload_n hx hb dX4_init_62 rfl (lv_at hl 0 rfl) ?_
  refine lv_sipush (v := 128) hx hb dX4_init_63 (by decide) ?_
  refine nw_a (atype := .int) (ty := .int) (t0 := 0) (a0 := (128, .inl (fun _ => 0))) hx hb (hgt _ wd_0_92) rfl hK rfl hP hD hS hA (fun _ => rfl) (by decide) rfl (by decide) (Nat.le_of_ble_eq_true rfl) (Nat.le_of_ble_eq_true rfl) dX4_init_66 (fun q8 H hP hD hS => ?_)
  have hP : va_P D vwCl [(h, .inr (4, [.int 0, .ref q1, .ref q2, .ref q3, .ref q4, .ref q5, .int 0, .ref q6, .ref q7, .null, .null, .null, .null, .null, .null])), (q1, .inl (cI, 16, .inl (fun _ => 0))), (q2, .inl (cI, 16, .inl (fun _ => 0))), (q3, .inl (cI, 16, .inl (fun _ => 0))), (q4, .inl (cI, 16, .inl (fun _ => 0))), (q5, .inl (cI, 16, .inl (fun _ => 0))), (q6, .inl (cI, 128, .inl (fun _ => 0))), (q7, .inl (cI, 128, .inl (fun _ => 0))), (q8, .inl (cI, 128, .inl (fun _ => 0)))] H := hP
  have hD : va_D A [(h, .inr (4, [.int 0, .ref q1, .ref q2, .ref q3, .ref q4, .ref q5, .int 0, .ref q6, .ref q7, .null, .null, .null, .null, .null, .null])), (q1, .inl (cI, 16, .inl (fun _ => 0))), (q2, .inl (cI, 16, .inl (fun _ => 0))), (q3, .inl (cI, 16, .inl (fun _ => 0))), (q4, .inl (cI, 16, .inl (fun _ => 0))), (q5, .inl (cI, 16, .inl (fun _ => 0))), (q6, .inl (cI, 128, .inl (fun _ => 0))), (q7, .inl (cI, 128, .inl (fun _ => 0))), (q8, .inl (cI, 128, .inl (fun _ => 0)))] := hD
  refine va_putF (D := D) (ci := 4) (v := .ref q8) (ty := .array .int) (C := RX4) (T := TX4) (N := 15) hx hb hgt iwX4 tyX4 tyX4_ok nmX4 hown hK hP hD hS 0 rfl rfl 9 (Nat.le_of_ble_eq_true rfl) (hgt _ wd_0_126) (fun _ h9 => h9) rfl hin rfl (by decide +kernel) rfl rfl (Nat.le_of_ble_eq_true rfl) dX4_init_68 (fun H locs hP hD hS => ?_)
  have hP : va_P D vwCl [(h, .inr (4, [.int 0, .ref q1, .ref q2, .ref q3, .ref q4, .ref q5, .int 0, .ref q6, .ref q7, .ref q8, .null, .null, .null, .null, .null])), (q1, .inl (cI, 16, .inl (fun _ => 0))), (q2, .inl (cI, 16, .inl (fun _ => 0))), (q3, .inl (cI, 16, .inl (fun _ => 0))), (q4, .inl (cI, 16, .inl (fun _ => 0))), (q5, .inl (cI, 16, .inl (fun _ => 0))), (q6, .inl (cI, 128, .inl (fun _ => 0))), (q7, .inl (cI, 128, .inl (fun _ => 0))), (q8, .inl (cI, 128, .inl (fun _ => 0)))] H := hP
  have hD : va_D A [(h, .inr (4, [.int 0, .ref q1, .ref q2, .ref q3, .ref q4, .ref q5, .int 0, .ref q6, .ref q7, .ref q8, .null, .null, .null, .null, .null])), (q1, .inl (cI, 16, .inl (fun _ => 0))), (q2, .inl (cI, 16, .inl (fun _ => 0))), (q3, .inl (cI, 16, .inl (fun _ => 0))), (q4, .inl (cI, 16, .inl (fun _ => 0))), (q5, .inl (cI, 16, .inl (fun _ => 0))), (q6, .inl (cI, 128, .inl (fun _ => 0))), (q7, .inl (cI, 128, .inl (fun _ => 0))), (q8, .inl (cI, 128, .inl (fun _ => 0)))] := hD
  refine lv_aload_n hx hb dX4_init_71 rfl (lv_at hl 0 rfl) ?_
  refine lv_sipush (v := 128) hx hb dX4_init_72 (by decide) ?_
  refine nw_a (atype := .int) (ty := .int) (t0 := 0) (a0 := (128, .inl (fun _ => 0))) hx hb (hgt _ wd_0_92) rfl hK rfl hP hD hS hA (fun _ => rfl) (by decide) rfl (by decide) (Nat.le_of_ble_eq_true rfl) (Nat.le_of_ble_eq_true rfl) dX4_init_75 (fun q9 H hP hD hS => ?_)
  have hP : va_P D vwCl [(h, .inr (4, [.int 0, .ref q1, .ref q2, .ref q3, .ref q4, .ref q5, .int 0, .ref q6, .ref q7, .ref q8, .null, .null, .null, .null, .null])), (q1, .inl (cI, 16, .inl (fun _ => 0))), (q2, .inl (cI, 16, .inl (fun _ => 0))), (q3, .inl (cI, 16, .inl (fun _ => 0))), (q4, .inl (cI, 16, .inl (fun _ => 0))), (q5, .inl (cI, 16, .inl (fun _ => 0))), (q6, .inl (cI, 128, .inl (fun _ => 0))), (q7, .inl (cI, 128, .inl (fun _ => 0))), (q8, .inl (cI, 128, .inl (fun _ => 0))), (q9, .inl (cI, 128, .inl (fun _ => 0)))] H := hP
  have hD : va_D A [(h, .inr (4, [.int 0, .ref q1, .ref q2, .ref q3, .ref q4, .ref q5, .int 0, .ref q6, .ref q7, .ref q8, .null, .null, .null, .null, .null])), (q1, .inl (cI, 16, .inl (fun _ => 0))), (q2, .inl (cI, 16, .inl (fun _ => 0))), (q3, .inl (cI, 16, .inl (fun _ => 0))), (q4, .inl (cI, 16, .inl (fun _ => 0))), (q5, .inl (cI, 16, .inl (fun _ => 0))), (q6, .inl (cI, 128, .inl (fun _ => 0))), (q7, .inl (cI, 128, .inl (fun _ => 0))), (q8, .inl (cI, 128, .inl (fun _ => 0))), (q9, .inl (cI, 128, .inl (fun _ => 0)))] := hD
  refine va_putF (D := D) (ci := 4) (v := .ref q9) (ty := .array .int) (C := RX4) (T := TX4) (N := 15) hx hb hgt iwX4 tyX4 tyX4_ok nmX4 hown hK hP hD hS 0 rfl rfl 10 (Nat.le_of_ble_eq_true rfl) (hgt _ wd_0_130) (fun _ h9 => h9) rfl hin rfl (by decide +kernel) rfl rfl (Nat.le_of_ble_eq_true rfl) dX4_init_77 (fun H locs hP hD hS => ?_)
  have hP : va_P D vwCl [(h, .inr (4, [.int 0, .ref q1, .ref q2, .ref q3, .ref q4, .ref q5, .int 0, .ref q6, .ref q7, .ref q8, .ref q9, .null, .null, .null, .null])), (q1, .inl (cI, 16, .inl (fun _ => 0))), (q2, .inl (cI, 16, .inl (fun _ => 0))), (q3, .inl (cI, 16, .inl (fun _ => 0))), (q4, .inl (cI, 16, .inl (fun _ => 0))), (q5, .inl (cI, 16, .inl (fun _ => 0))), (q6, .inl (cI, 128, .inl (fun _ => 0))), (q7, .inl (cI, 128, .inl (fun _ => 0))), (q8, .inl (cI, 128, .inl (fun _ => 0))), (q9, .inl (cI, 128, .inl (fun _ => 0)))] H := hP
  have hD : va_D A [(h, .inr (4, [.int 0, .ref q1, .ref q2, .ref q3, .ref q4, .ref q5, .int 0, .ref q6, .ref q7, .ref q8, .ref q9, .null, .null, .null, .null])), (q1, .inl (cI, 16, .inl (fun _ => 0))), (q2, .inl (cI, 16, .inl (fun _ => 0))), (q3, .inl (cI, 16, .inl (fun _ => 0))), (q4, .inl (cI, 16, .inl (fun _ => 0))), (q5, .inl (cI, 16, .inl (fun _ => 0))), (q6, .inl (cI, 128, .inl (fun _ => 0))), (q7, .inl (cI, 128, .inl (fun _ => 0))), (q8, .inl (cI, 128, .inl (fun _ => 0))), (q9, .inl (cI, 128, .inl (fun _ => 0)))] := hD
  refine lv_aload_n hx hb dX4_init_80 rfl (lv_at hl 0 rfl) ?_
  refine lv_sipush (v := 128) hx hb dX4_init_81 (by decide) ?_
  refine nw_a (atype := .int) (ty := .int) (t0 := 0) (a0 := (128, .inl (fun _ => 0))) hx hb (hgt _ wd_0_92) rfl hK rfl hP hD hS hA (fun _ => rfl) (by decide) rfl (by decide) (Nat.le_of_ble_eq_true rfl) (Nat.le_of_ble_eq_true rfl) dX4_init_84 (fun q10 H hP hD hS => ?_)
  have hP : va_P D vwCl [(h, .inr (4, [.int 0, .ref q1, .ref q2, .ref q3, .ref q4, .ref q5, .int 0, .ref q6, .ref q7, .ref q8, .ref q9, .null, .null, .null, .null])), (q1, .inl (cI, 16, .inl (fun _ => 0))), (q2, .inl (cI, 16, .inl (fun _ => 0))), (q3, .inl (cI, 16, .inl (fun _ => 0))), (q4, .inl (cI, 16, .inl (fun _ => 0))), (q5, .inl (cI, 16, .inl (fun _ => 0))), (q6, .inl (cI, 128, .inl (fun _ => 0))), (q7, .inl (cI, 128, .inl (fun _ => 0))), (q8, .inl (cI, 128, .inl (fun _ => 0))), (q9, .inl (cI, 128, .inl (fun _ => 0))), (q10, .inl (cI, 128, .inl (fun _ => 0)))] H := hP
  have hD : va_D A [(h, .inr (4, [.int 0, .ref q1, .ref q2, .ref q3, .ref q4, .ref q5, .int 0, .ref q6, .ref q7, .ref q8, .ref q9, .null, .null, .null, .null])), (q1, .inl (cI, 16, .inl (fun _ => 0))), (q2, .inl (cI, 16, .inl (fun _ => 0))), (q3, .inl (cI, 16, .inl (fun _ => 0))), (q4, .inl (cI, 16, .inl (fun _ => 0))), (q5, .inl (cI, 16, .inl (fun _ => 0))), (q6, .inl (cI, 128, .inl (fun _ => 0))), (q7, .inl (cI, 128, .inl (fun _ => 0))), (q8, .inl (cI, 128, .inl (fun _ => 0))), (q9, .inl (cI, 128, .inl (fun _ => 0))), (q10, .inl (cI, 128, .inl (fun _ => 0)))] := hD
  refine va_putF (D := D) (ci := 4) (v := .ref q10) (ty := .array .int) (C := RX4) (T := TX4) (N := 15) hx hb hgt iwX4 tyX4 tyX4_ok nmX4 hown hK hP hD hS 0 rfl rfl 11 (Nat.le_of_ble_eq_true rfl) (hgt _ wd_0_134) (fun _ h9 => h9) rfl hin rfl (by decide +kernel) rfl rfl (Nat.le_of_ble_eq_true rfl) dX4_init_86 (fun H locs hP hD hS => ?_)
  have hP : va_P D vwCl [(h, .inr (4, [.int 0, .ref q1, .ref q2, .ref q3, .ref q4, .ref q5, .int 0, .ref q6, .ref q7, .ref q8, .ref q9, .ref q10, .null, .null, .null])), (q1, .inl (cI, 16, .inl (fun _ => 0))), (q2, .inl (cI, 16, .inl (fun _ => 0))), (q3, .inl (cI, 16, .inl (fun _ => 0))), (q4, .inl (cI, 16, .inl (fun _ => 0))), (q5, .inl (cI, 16, .inl (fun _ => 0))), (q6, .inl (cI, 128, .inl (fun _ => 0))), (q7, .inl (cI, 128, .inl (fun _ => 0))), (q8, .inl (cI, 128, .inl (fun _ => 0))), (q9, .inl (cI, 128, .inl (fun _ => 0))), (q10, .inl (cI, 128, .inl (fun _ => 0)))] H := hP
  have hD : va_D A [(h, .inr (4, [.int 0, .ref q1, .ref q2, .ref q3, .ref q4, .ref q5, .int 0, .ref q6, .ref q7, .ref q8, .ref q9, .ref q10, .null, .null, .null])), (q1, .inl (cI, 16, .inl (fun _ => 0))), (q2, .inl (cI, 16, .inl (fun _ => 0))), (q3, .inl (cI, 16, .inl (fun _ => 0))), (q4, .inl (cI, 16, .inl (fun _ => 0))), (q5, .inl (cI, 16, .inl (fun _ => 0))), (q6, .inl (cI, 128, .inl (fun _ => 0))), (q7, .inl (cI, 128, .inl (fun _ => 0))), (q8, .inl (cI, 128, .inl (fun _ => 0))), (q9, .inl (cI, 128, .inl (fun _ => 0))), (q10, .inl (cI, 128, .inl (fun _ => 0)))] := hD
  refine lv_aload_n hx hb dX4_init_89 rfl (lv_at hl 0 rfl) ?_
  refine lv_sipush (v := 128) hx hb dX4_init_90 (by decide) ?_
  refine nw_a (atype := .int) (ty := .int) (t0 := 0) (a0 := (128, .inl (fun _ => 0))) hx hb (hgt _ wd_0_92) rfl hK rfl hP hD hS hA (fun _ => rfl) (by decide) rfl (by decide) (Nat.le_of_ble_eq_true rfl) (Nat.le_of_ble_eq_true rfl) dX4_init_93 (fun q11 H hP hD hS => ?_)
  have hP : va_P D vwCl [(h, .inr (4, [.int 0, .ref q1, .ref q2, .ref q3, .ref q4, .ref q5, .int 0, .ref q6, .ref q7, .ref q8, .ref q9, .ref q10, .null, .null, .null])), (q1, .inl (cI, 16, .inl (fun _ => 0))), (q2, .inl (cI, 16, .inl (fun _ => 0))), (q3, .inl (cI, 16, .inl (fun _ => 0))), (q4, .inl (cI, 16, .inl (fun _ => 0))), (q5, .inl (cI, 16, .inl (fun _ => 0))), (q6, .inl (cI, 128, .inl (fun _ => 0))), (q7, .inl (cI, 128, .inl (fun _ => 0))), (q8, .inl (cI, 128, .inl (fun _ => 0))), (q9, .inl (cI, 128, .inl (fun _ => 0))), (q10, .inl (cI, 128, .inl (fun _ => 0))), (q11, .inl (cI, 128, .inl (fun _ => 0)))] H := hP
  have hD : va_D A [(h, .inr (4, [.int 0, .ref q1, .ref q2, .ref q3, .ref q4, .ref q5, .int 0, .ref q6, .ref q7, .ref q8, .ref q9, .ref q10, .null, .null, .null])), (q1, .inl (cI, 16, .inl (fun _ => 0))), (q2, .inl (cI, 16, .inl (fun _ => 0))), (q3, .inl (cI, 16, .inl (fun _ => 0))), (q4, .inl (cI, 16, .inl (fun _ => 0))), (q5, .inl (cI, 16, .inl (fun _ => 0))), (q6, .inl (cI, 128, .inl (fun _ => 0))), (q7, .inl (cI, 128, .inl (fun _ => 0))), (q8, .inl (cI, 128, .inl (fun _ => 0))), (q9, .inl (cI, 128, .inl (fun _ => 0))), (q10, .inl (cI, 128, .inl (fun _ => 0))), (q11, .inl (cI, 128, .inl (fun _ => 0)))] := hD
  refine va_putF (D := D) (ci := 4) (v := .ref q11) (ty := .array .int) (C := RX4) (T := TX4) (N := 15) hx hb hgt iwX4 tyX4 tyX4_ok nmX4 hown hK hP hD hS 0 rfl rfl 12 (Nat.le_of_ble_eq_true rfl) (hgt _ wd_0_138) (fun _ h9 => h9) rfl hin rfl (by decide +kernel) rfl rfl (Nat.le_of_ble_eq_true rfl) dX4_init_95 (fun H locs hP hD hS => ?_)
  have hP : va_P D vwCl [(h, .inr (4, [.int 0, .ref q1, .ref q2, .ref q3, .ref q4, .ref q5, .int 0, .ref q6, .ref q7, .ref q8, .ref q9, .ref q10, .ref q11, .null, .null])), (q1, .inl (cI, 16, .inl (fun _ => 0))), (q2, .inl (cI, 16, .inl (fun _ => 0))), (q3, .inl (cI, 16, .inl (fun _ => 0))), (q4, .inl (cI, 16, .inl (fun _ => 0))), (q5, .inl (cI, 16, .inl (fun _ => 0))), (q6, .inl (cI, 128, .inl (fun _ => 0))), (q7, .inl (cI, 128, .inl (fun _ => 0))), (q8, .inl (cI, 128, .inl (fun _ => 0))), (q9, .inl (cI, 128, .inl (fun _ => 0))), (q10, .inl (cI, 128, .inl (fun _ => 0))), (q11, .inl (cI, 128, .inl (fun _ => 0)))] H := hP
  have hD : va_D A [(h, .inr (4, [.int 0, .ref q1, .ref q2, .ref q3, .ref q4, .ref q5, .int 0, .ref q6, .ref q7, .ref q8, .ref q9, .ref q10, .ref q11, .null, .null])), (q1, .inl (cI, 16, .inl (fun _ => 0))), (q2, .inl (cI, 16, .inl (fun _ => 0))), (q3, .inl (cI, 16, .inl (fun _ => 0))), (q4, .inl (cI, 16, .inl (fun _ => 0))), (q5, .inl (cI, 16, .inl (fun _ => 0))), (q6, .inl (cI, 128, .inl (fun _ => 0))), (q7, .inl (cI, 128, .inl (fun _ => 0))), (q8, .inl (cI, 128, .inl (fun _ => 0))), (q9, .inl (cI, 128, .inl (fun _ => 0))), (q10, .inl (cI, 128, .inl (fun _ => 0))), (q11, .inl (cI, 128, .inl (fun _ => 0)))] := hD
  refine lv_aload_n hx hb dX4_init_98 rfl (lv_at hl 0 rfl) ?_
  refine lv_sipush (v := 128) hx hb dX4_init_99 (by decide) ?_
  refine nw_a (atype := .int) (ty := .int) (t0 := 0) (a0 := (128, .inl (fun _ => 0))) hx hb (hgt _ wd_0_92) rfl hK rfl hP hD hS hA (fun _ => rfl) (by decide) rfl (by decide) (Nat.le_of_ble_eq_true rfl) (Nat.le_of_ble_eq_true rfl) dX4_init_102 (fun q12 H hP hD hS => ?_)
  have hP : va_P D vwCl [(h, .inr (4, [.int 0, .ref q1, .ref q2, .ref q3, .ref q4, .ref q5, .int 0, .ref q6, .ref q7, .ref q8, .ref q9, .ref q10, .ref q11, .null, .null])), (q1, .inl (cI, 16, .inl (fun _ => 0))), (q2, .inl (cI, 16, .inl (fun _ => 0))), (q3, .inl (cI, 16, .inl (fun _ => 0))), (q4, .inl (cI, 16, .inl (fun _ => 0))), (q5, .inl (cI, 16, .inl (fun _ => 0))), (q6, .inl (cI, 128, .inl (fun _ => 0))), (q7, .inl (cI, 128, .inl (fun _ => 0))), (q8, .inl (cI, 128, .inl (fun _ => 0))), (q9, .inl (cI, 128, .inl (fun _ => 0))), (q10, .inl (cI, 128, .inl (fun _ => 0))), (q11, .inl (cI, 128, .inl (fun _ => 0))), (q12, .inl (cI, 128, .inl (fun _ => 0)))] H := hP
  have hD : va_D A [(h, .inr (4, [.int 0, .ref q1, .ref q2, .ref q3, .ref q4, .ref q5, .int 0, .ref q6, .ref q7, .ref q8, .ref q9, .ref q10, .ref q11, .null, .null])), (q1, .inl (cI, 16, .inl (fun _ => 0))), (q2, .inl (cI, 16, .inl (fun _ => 0))), (q3, .inl (cI, 16, .inl (fun _ => 0))), (q4, .inl (cI, 16, .inl (fun _ => 0))), (q5, .inl (cI, 16, .inl (fun _ => 0))), (q6, .inl (cI, 128, .inl (fun _ => 0))), (q7, .inl (cI, 128, .inl (fun _ => 0))), (q8, .inl (cI, 128, .inl (fun _ => 0))), (q9, .inl (cI, 128, .inl (fun _ => 0))), (q10, .inl (cI, 128, .inl (fun _ => 0))), (q11, .inl (cI, 128, .inl (fun _ => 0))), (q12, .inl (cI, 128, .inl (fun _ => 0)))] := hD
  refine va_putF (D := D) (ci := 4) (v := .ref q12) (ty := .array .int) (C := RX4) (T := TX4) (N := 15) hx hb hgt iwX4 tyX4 tyX4_ok nmX4 hown hK hP hD hS 0 rfl rfl 13 (Nat.le_of_ble_eq_true rfl) (hgt _ wd_0_142) (fun _ h9 => h9) rfl hin rfl (by decide +kernel) rfl rfl (Nat.le_of_ble_eq_true rfl) dX4_init_104 (fun H locs hP hD hS => ?_)
  have hP : va_P D vwCl [(h, .inr (4, [.int 0, .ref q1, .ref q2, .ref q3, .ref q4, .ref q5, .int 0, .ref q6, .ref q7, .ref q8, .ref q9, .ref q10, .ref q11, .ref q12, .null])), (q1, .inl (cI, 16, .inl (fun _ => 0))), (q2, .inl (cI, 16, .inl (fun _ => 0))), (q3, .inl (cI, 16, .inl (fun _ => 0))), (q4, .inl (cI, 16, .inl (fun _ => 0))), (q5, .inl (cI, 16, .inl (fun _ => 0))), (q6, .inl (cI, 128, .inl (fun _ => 0))), (q7, .inl (cI, 128, .inl (fun _ => 0))), (q8, .inl (cI, 128, .inl (fun _ => 0))), (q9, .inl (cI, 128, .inl (fun _ => 0))), (q10, .inl (cI, 128, .inl (fun _ => 0))), (q11, .inl (cI, 128, .inl (fun _ => 0))), (q12, .inl (cI, 128, .inl (fun _ => 0)))] H := hP
  have hD : va_D A [(h, .inr (4, [.int 0, .ref q1, .ref q2, .ref q3, .ref q4, .ref q5, .int 0, .ref q6, .ref q7, .ref q8, .ref q9, .ref q10, .ref q11, .ref q12, .null])), (q1, .inl (cI, 16, .inl (fun _ => 0))), (q2, .inl (cI, 16, .inl (fun _ => 0))), (q3, .inl (cI, 16, .inl (fun _ => 0))), (q4, .inl (cI, 16, .inl (fun _ => 0))), (q5, .inl (cI, 16, .inl (fun _ => 0))), (q6, .inl (cI, 128, .inl (fun _ => 0))), (q7, .inl (cI, 128, .inl (fun _ => 0))), (q8, .inl (cI, 128, .inl (fun _ => 0))), (q9, .inl (cI, 128, .inl (fun _ => 0))), (q10, .inl (cI, 128, .inl (fun _ => 0))), (q11, .inl (cI, 128, .inl (fun _ => 0))), (q12, .inl (cI, 128, .inl (fun _ => 0)))] := hD
  refine lv_aload_n hx hb dX4_init_107 rfl (lv_at hl 0 rfl) ?_
  refine va_new (D := D) (ci := 11) (fs := [.int 0, .null, .null, .null, .null, .null, .null]) (C := RX11) (T := TX11) (N := 7) hx hb hgt iwX11 tyX11 tyX11_ok hown (hgt _ wd_0_43) (hgt _ wd_0_44) (hgt _ wd_0_3) hK hP hD hS hA rfl (by decide +kernel) (Nat.le_of_ble_eq_true rfl) (Nat.le_of_ble_eq_true rfl) dX4_init_108 (fun q13 H hP hD hS => ?_)
  have hP : va_P D vwCl [(h, .inr (4, [.int 0, .ref q1, .ref q2, .ref q3, .ref q4, .ref q5, .int 0, .ref q6, .ref q7, .ref q8, .ref q9, .ref q10, .ref q11, .ref q12, .null])), (q1, .inl (cI, 16, .inl (fun _ => 0))), (q2, .inl (cI, 16, .inl (fun _ => 0))), (q3, .inl (cI, 16, .inl (fun _ => 0))), (q4, .inl (cI, 16, .inl (fun _ => 0))), (q5, .inl (cI, 16, .inl (fun _ => 0))), (q6, .inl (cI, 128, .inl (fun _ => 0))), (q7, .inl (cI, 128, .inl (fun _ => 0))), (q8, .inl (cI, 128, .inl (fun _ => 0))), (q9, .inl (cI, 128, .inl (fun _ => 0))), (q10, .inl (cI, 128, .inl (fun _ => 0))), (q11, .inl (cI, 128, .inl (fun _ => 0))), (q12, .inl (cI, 128, .inl (fun _ => 0))), (q13, .inr (11, [.int 0, .null, .null, .null, .null, .null, .null]))] H := hP
  have hD : va_D A [(h, .inr (4, [.int 0, .ref q1, .ref q2, .ref q3, .ref q4, .ref q5, .int 0, .ref q6, .ref q7, .ref q8, .ref q9, .ref q10, .ref q11, .ref q12, .null])), (q1, .inl (cI, 16, .inl (fun _ => 0))), (q2, .inl (cI, 16, .inl (fun _ => 0))), (q3, .inl (cI, 16, .inl (fun _ => 0))), (q4, .inl (cI, 16, .inl (fun _ => 0))), (q5, .inl (cI, 16, .inl (fun _ => 0))), (q6, .inl (cI, 128, .inl (fun _ => 0))), (q7, .inl (cI, 128, .inl (fun _ => 0))), (q8, .inl (cI, 128, .inl (fun _ => 0))), (q9, .inl (cI, 128, .inl (fun _ => 0))), (q10, .inl (cI, 128, .inl (fun _ => 0))), (q11, .inl (cI, 128, .inl (fun _ => 0))), (q12, .inl (cI, 128, .inl (fun _ => 0))), (q13, .inr (11, [.int 0, .null, .null, .null, .null, .null, .null]))] := hD
  refine lv_dup hx hb dX4_init_111 rfl ?_
  have hPc := hP.sub (ws' := [(q13, .inr (11, [.int 0, .null, .null, .null, .null, .null, .null]))]) [13] rfl
  have hDc := hD.sub (ws' := [(q13, .inr (11, [.int 0, .null, .null, .null, .null, .null, .null]))]) [13] (by decide) rfl
  have hFc := va_free (wc := [(q13, .inr (11, [.int 0, .null, .null, .null, .null, .null, .null]))]) hD hS hA [13] rfl
  refine va_callv (va_runIN (As := []) (rest := [.ref q13, .ref h]) ⟨hx, hb, hml, hown, hgt⟩ (k_Rules l D cI cZ cC cJ q13 H.size) ⟨va_cnB 0 hgt (gC wd_0_47) rfl rfl rfl (va_Nw.warmM hO.1 hNw.2.1) (hgt _ wd_0_3) (by decide +kernel) ⟨Nat.le_of_ble_eq_true rfl, Nat.le_of_ble_eq_true rfl⟩, rfl, hgt _ wd_0_46⟩ ⟨fun a U g mk q => by obtain ⟨q0, q1, qP, qK, qD⟩ := q; exact ⟨q0, q1, qP, va_K.moved (u := U) (U := U.calling g mk a) (Vm.Alike.refl U.vm) qK, qD⟩, fun U hU hW => ⟨rfl, by rw [hU], by rw [hU]; exact hPc, va_K.moved hW.alike hK, hDc.weaken (fun _ _ _ _ => trivial)⟩⟩ rfl rfl hl.1 rfl (lv_room (Nat.le_of_ble_eq_true rfl)) dX4_init_112 ⟨Nat.le_of_ble_eq_true rfl, Nat.le_of_ble_eq_true rfl⟩) hS (fun q _ h => hFc q h) hFc (fun u t H1 locs ht hvm hw hB hz1 hk1 hS => ?_)
  obtain ⟨w14, hP1, hD1⟩ := hB
  rw [ht] at hP1
  obtain ⟨hP, hD⟩ := va_join (wr := [(h, .inr (4, [.int 0, .ref q1, .ref q2, .ref q3, .ref q4, .ref q5, .int 0, .ref q6, .ref q7, .ref q8, .ref q9, .ref q10, .ref q11, .ref q12, .null])), (q1, .inl (cI, 16, .inl (fun _ => 0))), (q2, .inl (cI, 16, .inl (fun _ => 0))), (q3, .inl (cI, 16, .inl (fun _ => 0))), (q4, .inl (cI, 16, .inl (fun _ => 0))), (q5, .inl (cI, 16, .inl (fun _ => 0))), (q6, .inl (cI, 128, .inl (fun _ => 0))), (q7, .inl (cI, 128, .inl (fun _ => 0))), (q8, .inl (cI, 128, .inl (fun _ => 0))), (q9, .inl (cI, 128, .inl (fun _ => 0))), (q10, .inl (cI, 128, .inl (fun _ => 0))), (q11, .inl (cI, 128, .inl (fun _ => 0))), (q12, .inl (cI, 128, .inl (fun _ => 0)))]) (w1 := [(q13, .inr (11, [.int 0, .ref (w14 1), .ref (w14 2), .ref (w14 3), .ref (w14 4), .ref (w14 5), .ref (w14 6)])), ((w14 1), .inl (cI, 12, .inl (fun _ => 0))), ((w14 2), .inl (cI, 12, .inl (fun _ => 0))), ((w14 3), .inl (cI, 12, .inl (fun _ => 0))), ((w14 4), .inl (cI, 12, .inl (fun _ => 0))), ((w14 5), .inl (cI, 12, .inl (fun _ => 0))), ((w14 6), .inl (cI, 12, .inl (fun _ => 0)))]) hP hD [13] [0, 1, 2, 3, 4, 5, 6, 7, 8, 9, 10, 11, 12] rfl rfl (by decide) (by decide) hk1 hFc hP1 hD1
  generalize H1 = H at hP hS ⊢
  have hP : va_P D vwCl [(h, .inr (4, [.int 0, .ref q1, .ref q2, .ref q3, .ref q4, .ref q5, .int 0, .ref q6, .ref q7, .ref q8, .ref q9, .ref q10, .ref q11, .ref q12, .null])), (q1, .inl (cI, 16, .inl (fun _ => 0))), (q2, .inl (cI, 16, .inl (fun _ => 0))), (q3, .inl (cI, 16, .inl (fun _ => 0))), (q4, .inl (cI, 16, .inl (fun _ => 0))), (q5, .inl (cI, 16, .inl (fun _ => 0))), (q6, .inl (cI, 128, .inl (fun _ => 0))), (q7, .inl (cI, 128, .inl (fun _ => 0))), (q8, .inl (cI, 128, .inl (fun _ => 0))), (q9, .inl (cI, 128, .inl (fun _ => 0))), (q10, .inl (cI, 128, .inl (fun _ => 0))), (q11, .inl (cI, 128, .inl (fun _ => 0))), (q12, .inl (cI, 128, .inl (fun _ => 0))), (q13, .inr (11, [.int 0, .ref (w14 1), .ref (w14 2), .ref (w14 3), .ref (w14 4), .ref (w14 5), .ref (w14 6)])), ((w14 1), .inl (cI, 12, .inl (fun _ => 0))), ((w14 2), .inl (cI, 12, .inl (fun _ => 0))), ((w14 3), .inl (cI, 12, .inl (fun _ => 0))), ((w14 4), .inl (cI, 12, .inl (fun _ => 0))), ((w14 5), .inl (cI, 12, .inl (fun _ => 0))), ((w14 6), .inl (cI, 12, .inl (fun _ => 0)))] H := hP
  have hD : va_D A [(h, .inr (4, [.int 0, .ref q1, .ref q2, .ref q3, .ref q4, .ref q5, .int 0, .ref q6, .ref q7, .ref q8, .ref q9, .ref q10, .ref q11, .ref q12, .null])), (q1, .inl (cI, 16, .inl (fun _ => 0))), (q2, .inl (cI, 16, .inl (fun _ => 0))), (q3, .inl (cI, 16, .inl (fun _ => 0))), (q4, .inl (cI, 16, .inl (fun _ => 0))), (q5, .inl (cI, 16, .inl (fun _ => 0))), (q6, .inl (cI, 128, .inl (fun _ => 0))), (q7, .inl (cI, 128, .inl (fun _ => 0))), (q8, .inl (cI, 128, .inl (fun _ => 0))), (q9, .inl (cI, 128, .inl (fun _ => 0))), (q10, .inl (cI, 128, .inl (fun _ => 0))), (q11, .inl (cI, 128, .inl (fun _ => 0))), (q12, .inl (cI, 128, .inl (fun _ => 0))), (q13, .inr (11, [.int 0, .ref (w14 1), .ref (w14 2), .ref (w14 3), .ref (w14 4), .ref (w14 5), .ref (w14 6)])), ((w14 1), .inl (cI, 12, .inl (fun _ => 0))), ((w14 2), .inl (cI, 12, .inl (fun _ => 0))), ((w14 3), .inl (cI, 12, .inl (fun _ => 0))), ((w14 4), .inl (cI, 12, .inl (fun _ => 0))), ((w14 5), .inl (cI, 12, .inl (fun _ => 0))), ((w14 6), .inl (cI, 12, .inl (fun _ => 0)))] := hD
  refine va_putF (D := D) (ci := 4) (v := .ref q13) (ty := .object "ChipMap$Rules") (C := RX4) (T := TX4) (N := 15) hx hb hgt iwX4 tyX4 tyX4_ok nmX4 hown hK hP hD hS 0 rfl rfl 14 (Nat.le_of_ble_eq_true rfl) (hgt _ wd_0_146) (fun _ h9 => h9) rfl hin rfl (by decide +kernel) rfl rfl (Nat.le_of_ble_eq_true rfl) dX4_init_115 (fun H locs hP hD hS => ?_)
  have hP : va_P D vwCl [(h, .inr (4, [.int 0, .ref q1, .ref q2, .ref q3, .ref q4, .ref q5, .int 0, .ref q6, .ref q7, .ref q8, .ref q9, .ref q10, .ref q11, .ref q12, .ref q13])), (q1, .inl (cI, 16, .inl (fun _ => 0))), (q2, .inl (cI, 16, .inl (fun _ => 0))), (q3, .inl (cI, 16, .inl (fun _ => 0))), (q4, .inl (cI, 16, .inl (fun _ => 0))), (q5, .inl (cI, 16, .inl (fun _ => 0))), (q6, .inl (cI, 128, .inl (fun _ => 0))), (q7, .inl (cI, 128, .inl (fun _ => 0))), (q8, .inl (cI, 128, .inl (fun _ => 0))), (q9, .inl (cI, 128, .inl (fun _ => 0))), (q10, .inl (cI, 128, .inl (fun _ => 0))), (q11, .inl (cI, 128, .inl (fun _ => 0))), (q12, .inl (cI, 128, .inl (fun _ => 0))), (q13, .inr (11, [.int 0, .ref (w14 1), .ref (w14 2), .ref (w14 3), .ref (w14 4), .ref (w14 5), .ref (w14 6)])), ((w14 1), .inl (cI, 12, .inl (fun _ => 0))), ((w14 2), .inl (cI, 12, .inl (fun _ => 0))), ((w14 3), .inl (cI, 12, .inl (fun _ => 0))), ((w14 4), .inl (cI, 12, .inl (fun _ => 0))), ((w14 5), .inl (cI, 12, .inl (fun _ => 0))), ((w14 6), .inl (cI, 12, .inl (fun _ => 0)))] H := hP
  have hD : va_D A [(h, .inr (4, [.int 0, .ref q1, .ref q2, .ref q3, .ref q4, .ref q5, .int 0, .ref q6, .ref q7, .ref q8, .ref q9, .ref q10, .ref q11, .ref q12, .ref q13])), (q1, .inl (cI, 16, .inl (fun _ => 0))), (q2, .inl (cI, 16, .inl (fun _ => 0))), (q3, .inl (cI, 16, .inl (fun _ => 0))), (q4, .inl (cI, 16, .inl (fun _ => 0))), (q5, .inl (cI, 16, .inl (fun _ => 0))), (q6, .inl (cI, 128, .inl (fun _ => 0))), (q7, .inl (cI, 128, .inl (fun _ => 0))), (q8, .inl (cI, 128, .inl (fun _ => 0))), (q9, .inl (cI, 128, .inl (fun _ => 0))), (q10, .inl (cI, 128, .inl (fun _ => 0))), (q11, .inl (cI, 128, .inl (fun _ => 0))), (q12, .inl (cI, 128, .inl (fun _ => 0))), (q13, .inr (11, [.int 0, .ref (w14 1), .ref (w14 2), .ref (w14 3), .ref (w14 4), .ref (w14 5), .ref (w14 6)])), ((w14 1), .inl (cI, 12, .inl (fun _ => 0))), ((w14 2), .inl (cI, 12, .inl (fun _ => 0))), ((w14 3), .inl (cI, 12, .inl (fun _ => 0))), ((w14 4), .inl (cI, 12, .inl (fun _ => 0))), ((w14 5), .inl (cI, 12, .inl (fun _ => 0))), ((w14 6), .inl (cI, 12, .inl (fun _ => 0)))] := hD
  have hP9 := hP.sub (ws' := [(h, .inr (4, [.int 0, .ref q1, .ref q2, .ref q3, .ref q4, .ref q5, .int 0, .ref q6, .ref q7, .ref q8, .ref q9, .ref q10, .ref q11, .ref q12, .ref q13])), (q1, .inl (cI, 16, .inl (fun _ => 0))), (q2, .inl (cI, 16, .inl (fun _ => 0))), (q3, .inl (cI, 16, .inl (fun _ => 0))), (q4, .inl (cI, 16, .inl (fun _ => 0))), (q5, .inl (cI, 16, .inl (fun _ => 0))), (q6, .inl (cI, 128, .inl (fun _ => 0))), (q7, .inl (cI, 128, .inl (fun _ => 0))), (q8, .inl (cI, 128, .inl (fun _ => 0))), (q9, .inl (cI, 128, .inl (fun _ => 0))), (q10, .inl (cI, 128, .inl (fun _ => 0))), (q11, .inl (cI, 128, .inl (fun _ => 0))), (q12, .inl (cI, 128, .inl (fun _ => 0))), (q13, .inr (11, [.int 0, .ref (w14 1), .ref (w14 2), .ref (w14 3), .ref (w14 4), .ref (w14 5), .ref (w14 6)])), ((w14 1), .inl (cI, 12, .inl (fun _ => 0))), ((w14 2), .inl (cI, 12, .inl (fun _ => 0))), ((w14 3), .inl (cI, 12, .inl (fun _ => 0))), ((w14 4), .inl (cI, 12, .inl (fun _ => 0))), ((w14 5), .inl (cI, 12, .inl (fun _ => 0))), ((w14 6), .inl (cI, 12, .inl (fun _ => 0)))]) [0, 1, 2, 3, 4, 5, 6, 7, 8, 9, 10, 11, 12, 13, 14, 15, 16, 17, 18, 19] rfl
  have hD9 := hD.sub (ws' := [(h, .inr (4, [.int 0, .ref q1, .ref q2, .ref q3, .ref q4, .ref q5, .int 0, .ref q6, .ref q7, .ref q8, .ref q9, .ref q10, .ref q11, .ref q12, .ref q13])), (q1, .inl (cI, 16, .inl (fun _ => 0))), (q2, .inl (cI, 16, .inl (fun _ => 0))), (q3, .inl (cI, 16, .inl (fun _ => 0))), (q4, .inl (cI, 16, .inl (fun _ => 0))), (q5, .inl (cI, 16, .inl (fun _ => 0))), (q6, .inl (cI, 128, .inl (fun _ => 0))), (q7, .inl (cI, 128, .inl (fun _ => 0))), (q8, .inl (cI, 128, .inl (fun _ => 0))), (q9, .inl (cI, 128, .inl (fun _ => 0))), (q10, .inl (cI, 128, .inl (fun _ => 0))), (q11, .inl (cI, 128, .inl (fun _ => 0))), (q12, .inl (cI, 128, .inl (fun _ => 0))), (q13, .inr (11, [.int 0, .ref (w14 1), .ref (w14 2), .ref (w14 3), .ref (w14 4), .ref (w14 5), .ref (w14 6)])), ((w14 1), .inl (cI, 12, .inl (fun _ => 0))), ((w14 2), .inl (cI, 12, .inl (fun _ => 0))), ((w14 3), .inl (cI, 12, .inl (fun _ => 0))), ((w14 4), .inl (cI, 12, .inl (fun _ => 0))), ((w14 5), .inl (cI, 12, .inl (fun _ => 0))), ((w14 6), .inl (cI, 12, .inl (fun _ => 0)))]) [0, 1, 2, 3, 4, 5, 6, 7, 8, 9, 10, 11, 12, 13, 14, 15, 16, 17, 18, 19] (by decide) rfl
  refine W.widen (k := 19) (n := 1055) (Nat.le_of_ble_eq_true rfl) (Nat.le_of_ble_eq_true rfl) ?_
  exact W.vret hx hb hr (fun t ht hW => ⟨⟨(), rfl, trivial, (rl [0, q1, q2, q3, q4, q5, q6, q7, q8, q9, q10, q11, q12, q13, (w14 1), (w14 2), (w14 3), (w14 4), (w14 5), (w14 6)]), by rw [ht]; exact hP9, hD9⟩, hS.F ht⟩) hS.2.2 dX4_init_118
set_option maxHeartbeats 4000000 in
set_option maxRecDepth 100000 in
theorem k_Device (l : Launch) (D : va_G) (cI cZ cC cJ : ClassId) (s0 : State) (qs qv : Nat) (fb : Nat → Value) (hSt : StrF s0 qs qv fb) (hNw : NwF s0) (cA : ClassId) (hAg : AoG s0 cA cI) (h : Nat) (ly : Nat) (sz : Nat) : Met l yX3_init wsX3_init ({ frames := 2, cells := 9, slots := 273, locals := 33 }) (va_Pc [.ref h, .ref ly] (fun U => U.heap.size = sz ∧ va_P D vwCl [(h, .inr (3, [.null, .null, .null, .int 0, .null, .null, .null]))] U.heap ∧ va_K D vwCl [(cI, .int), (cZ, .boolean), (cC, .char), (cJ, .long)] U ∧ va_D (fun q => s0.heap.size ≤ q) [(h, .inr (3, [.null, .null, .null, .int 0, .null, .null, .null]))] ∧ Old s0 U)) (va_Qv (fun (_ : Unit) => True) (fun _ t => ∃ (r : Nat → Nat), va_P D vwCl [(h, .inr (3, [.ref ly, .ref (r 1), .ref (r 3), .int 0, .ref (r 7), .ref (r 8), .ref (r 9)])), ((r 1), .inr (8, [.ref ly, .ref (r 2), .int 0])), ((r 2), .inl (cI, 16, .inl (fun _ => 0))), ((r 3), .inr (7, [.int 0, .ref (r 4), .ref (r 5), .ref (r 6)])), ((r 4), .inl (cI, 64, .inl (fun _ => 0))), ((r 5), .inl (cI, 64, .inl (fun _ => 0))), ((r 6), .inl (cI, 64, .inl (fun _ => 0))), ((r 7), .inl (cI, 16, .inl (fun _ => 0))), ((r 8), .inl (cI, 16, .inl (fun _ => 0))), ((r 9), .inl (cI, 26, .inl (fun _ => 0)))] t.heap ∧ va_D (va_A [(h, .inr (3, [.null, .null, .null, .int 0, .null, .null, .null]))] sz) [(h, .inr (3, [.ref ly, .ref (r 1), .ref (r 3), .int 0, .ref (r 7), .ref (r 8), .ref (r 9)])), ((r 1), .inr (8, [.ref ly, .ref (r 2), .int 0])), ((r 2), .inl (cI, 16, .inl (fun _ => 0))), ((r 3), .inr (7, [.int 0, .ref (r 4), .ref (r 5), .ref (r 6)])), ((r 4), .inl (cI, 64, .inl (fun _ => 0))), ((r 5), .inl (cI, 64, .inl (fun _ => 0))), ((r 6), .inl (cI, 64, .inl (fun _ => 0))), ((r 7), .inl (cI, 16, .inl (fun _ => 0))), ((r 8), .inl (cI, 16, .inl (fun _ => 0))), ((r 9), .inl (cI, 26, .inl (fun _ => 0)))]) (va_A [(h, .inr (3, [.null, .null, .null, .int 0, .null, .null, .null]))] sz)) 9 273 (va_A [(h, .inr (3, [.null, .null, .null, .int 0, .null, .null, .null]))] sz) := by
  refine Met.ofW (cc := cX3_init) (maxL := 2) (ret := none) (by decide) rfl ?_
  intro p e s m args below meth c s₁ B hml hv
  obtain ⟨rfl, hsz, hP, hK, hD0, hO⟩ := hv
  have hx := B.exec
  have hb := B.bytes
  have hr := B.returns
  have hgt := fun w (h : w ∈ GT) => atoms_spec (ws := wsX3_init) B.pre w (List.mem_cons_of_mem _ h)
  have hown : s.vm.findClass RX3 = some m.cls := findClass_of_methodNamed B.named
  have hlocks := B.notSynchronized
  have hin : meth.name = "<init>" := (name_of_methodNamed B.named B.method).1
  subst hsz
  have hD := hD0.self (sz := s.heap.size)
  generalize hAe : va_A [(h, .inr (3, [.null, .null, .null, .int 0, .null, .null, .null]))] s.heap.size = A at hD ⊢
  have hA : ∀ q : Nat, s.heap.size ≤ q → A q := fun q h => by rw [← hAe]; exact Or.inr h
  have hAO : ∀ q : Nat, A q → s0.heap.size ≤ q := fun q h => by rw [← hAe] at h; exact old_in hD0 hO h
  have hS : va_S A s.heap s.heap [] := va_S.rf
  have hP : va_P D vwCl [(h, .inr (3, [.null, .null, .null, .int 0, .null, .null, .null]))] s.heap := hP
  have hl := lv_entry ([.ref h, .ref ly]) (n := 2) (Nat.le_of_ble_eq_true rfl)
  rw [lg_entry_eq]
  generalize (lg_sl ([.ref h, .ref ly]) ++ List.replicate (2 - (lg_sl ([.ref h, .ref ly])).length) Slot.unset).toArray = ls at hl ⊢
  have hl : lv_has ls 2 [(0, .ref h), (1, .ref ly)] := hl
  refine lv_aload_n hx hb dX3_init_0 rfl (lv_at hl 0 rfl) ?_
  refine W.objInit hx hb hown (hgt _ wd_1_81) (hgt _ wd_0_35) (hgt _ wd_0_36) rfl (by rw [hml]; exact hl.1) rfl dX3_init_1 (Nat.le_of_ble_eq_true rfl) (Nat.le_of_ble_eq_true rfl) ?_
  refine W.eq (g2 := F0 m 4 ls []) rfl ?_
  refine lv_aload_n hx hb dX3_init_4 rfl (lv_at hl 0 rfl) ?_
  refine va_new (D := D) (ci := 7) (fs := [.int 0, .null, .null, .null]) (C := RX7) (T := TX7) (N := 4) hx hb hgt iwX7 tyX7 tyX7_ok hown (hgt _ wd_1_82) (hgt _ wd_1_83) (hgt _ wd_0_10) hK hP hD hS hA rfl (by decide +kernel) (Nat.le_of_ble_eq_true rfl) (Nat.le_of_ble_eq_true rfl) dX3_init_5 (fun q1 H hP hD hS => ?_)
  have hP : va_P D vwCl [(h, .inr (3, [.null, .null, .null, .int 0, .null, .null, .null])), (q1, .inr (7, [.int 0, .null, .null, .null]))] H := hP
  have hD : va_D A [(h, .inr (3, [.null, .null, .null, .int 0, .null, .null, .null])), (q1, .inr (7, [.int 0, .null, .null, .null]))] := hD
  refine lv_dup hx hb dX3_init_8 rfl ?_
  have hPc := hP.sub (ws' := [(q1, .inr (7, [.int 0, .null, .null, .null]))]) [1] rfl
  have hDc := hD.sub (ws' := [(q1, .inr (7, [.int 0, .null, .null, .null]))]) [1] (by decide) rfl
  have hFc := va_free (wc := [(q1, .inr (7, [.int 0, .null, .null, .null]))]) hD hS hA [1] rfl
  refine va_callv (va_runIN (As := []) (rest := [.ref q1, .ref h]) ⟨hx, hb, hml, hown, hgt⟩ (k_Log l D cI cZ cC cJ q1 H.size) ⟨va_cnB 0 hgt (gC wd_1_86) rfl rfl rfl (va_Nw.warmM hO.1 hNw.2.2.2.1) (hgt _ wd_0_10) (by decide +kernel) ⟨Nat.le_of_ble_eq_true rfl, Nat.le_of_ble_eq_true rfl⟩, rfl, hgt _ wd_1_85⟩ ⟨fun a U g mk q => by obtain ⟨q0, q1, qP, qK, qD⟩ := q; exact ⟨q0, q1, qP, va_K.moved (u := U) (U := U.calling g mk a) (Vm.Alike.refl U.vm) qK, qD⟩, fun U hU hW => ⟨rfl, by rw [hU], by rw [hU]; exact hPc, va_K.moved hW.alike hK, hDc.weaken (fun _ _ _ _ => trivial)⟩⟩ rfl rfl hl.1 rfl (lv_room (Nat.le_of_ble_eq_true rfl)) dX3_init_9 ⟨Nat.le_of_ble_eq_true rfl, Nat.le_of_ble_eq_true rfl⟩) hS (fun q _ h => hFc q h) hFc (fun u t H1 locs ht hvm hw hB hz1 hk1 hS => ?_)
  obtain ⟨w2, hP1, hD1⟩ := hB
  rw [ht] at hP1
  obtain ⟨hP, hD⟩ := va_join (wr := [(h, .inr (3, [.null, .null, .null, .int 0, .null, .null, .null]))]) (w1 := [(q1, .inr (7, [.int 0, .ref (w2 1), .ref (w2 2), .ref (w2 3)])), ((w2 1), .inl (cI, 64, .inl (fun _ => 0))), ((w2 2), .inl (cI, 64, .inl (fun _ => 0))), ((w2 3), .inl (cI, 64, .inl (fun _ => 0)))]) hP hD [1] [0] rfl rfl (by decide) (by decide) hk1 hFc hP1 hD1
  generalize H1 = H at hP hS ⊢
  have hP : va_P D vwCl [(h, .inr (3, [.null, .null, .null, .int 0, .null, .null, .null])), (q1, .inr (7, [.int 0, .ref (w2 1), .ref (w2 2), .ref (w2 3)])), ((w2 1), .inl (cI, 64, .inl (fun _ => 0))), ((w2 2), .inl (cI, 64, .inl (fun _ => 0))), ((w2 3), .inl (cI, 64, .inl (fun _ => 0)))] H := hP
  have hD : va_D A [(h, .inr (3, [.null, .null, .null, .int 0, .null, .null, .null])), (q1, .inr (7, [.int 0, .ref (w2 1), .ref (w2 2), .ref (w2 3)])), ((w2 1), .inl (cI, 64, .inl (fun _ => 0))), ((w2 2), .inl (cI, 64, .inl (fun _ => 0))), ((w2 3), .inl (cI, 64, .inl (fun _ => 0)))] := hD
  refine va_putF (D := D) (ci := 3) (v := .ref q1) (ty := .object "ChipMap$Log") (C := RX3) (T := TX3) (N := 7) hx hb hgt iwX3 tyX3 tyX3_ok nmX3 hown hK hP hD hS 0 rfl rfl 2 (Nat.le_of_ble_eq_true rfl) (hgt _ wd_1_129) (fun _ h9 => h9) rfl hin rfl (by decide +kernel) rfl rfl (Nat.le_of_ble_eq_true rfl) dX3_init_12 (fun H locs hP hD hS => ?_)
  have hP : va_P D vwCl [(h, .inr (3, [.null, .null, .ref q1, .int 0, .null, .null, .null])), (q1, .inr (7, [.int 0, .ref (w2 1), .ref (w2 2), .ref (w2 3)])), ((w2 1), .inl (cI, 64, .inl (fun _ => 0))), ((w2 2), .inl (cI, 64, .inl (fun _ => 0))), ((w2 3), .inl (cI, 64, .inl (fun _ => 0)))] H := hP
  have hD : va_D A [(h, .inr (3, [.null, .null, .ref q1, .int 0, .null, .null, .null])), (q1, .inr (7, [.int 0, .ref (w2 1), .ref (w2 2), .ref (w2 3)])), ((w2 1), .inl (cI, 64, .inl (fun _ => 0))), ((w2 2), .inl (cI, 64, .inl (fun _ => 0))), ((w2 3), .inl (cI, 64, .inl (fun _ => 0)))] := hD
  refine lv_aload_n hx hb dX3_init_15 rfl (lv_at hl 0 rfl) ?_
  refine lv_bipush (v := 16) hx hb dX3_init_16 (by decide) ?_
  refine nw_a (atype := .int) (ty := .int) (t0 := 0) (a0 := (16, .inl (fun _ => 0))) hx hb (hgt _ wd_0_92) rfl hK rfl hP hD hS hA (fun _ => rfl) (by decide) rfl (by decide) (Nat.le_of_ble_eq_true rfl) (Nat.le_of_ble_eq_true rfl) dX3_init_18 (fun q3 H hP hD hS => ?_)
  have hP : va_P D vwCl [(h, .inr (3, [.null, .null, .ref q1, .int 0, .null, .null, .null])), (q1, .inr (7, [.int 0, .ref (w2 1), .ref (w2 2), .ref (w2 3)])), ((w2 1), .inl (cI, 64, .inl (fun _ => 0))), ((w2 2), .inl (cI, 64, .inl (fun _ => 0))), ((w2 3), .inl (cI, 64, .inl (fun _ => 0))), (q3, .inl (cI, 16, .inl (fun _ => 0)))] H := hP
  have hD : va_D A [(h, .inr (3, [.null, .null, .ref q1, .int 0, .null, .null, .null])), (q1, .inr (7, [.int 0, .ref (w2 1), .ref (w2 2), .ref (w2 3)])), ((w2 1), .inl (cI, 64, .inl (fun _ => 0))), ((w2 2), .inl (cI, 64, .inl (fun _ => 0))), ((w2 3), .inl (cI, 64, .inl (fun _ => 0))), (q3, .inl (cI, 16, .inl (fun _ => 0)))] := hD
  refine va_putF (D := D) (ci := 3) (v := .ref q3) (ty := .array .int) (C := RX3) (T := TX3) (N := 7) hx hb hgt iwX3 tyX3 tyX3_ok nmX3 hown hK hP hD hS 0 rfl rfl 4 (Nat.le_of_ble_eq_true rfl) (hgt _ wd_1_133) (fun _ h9 => h9) rfl hin rfl (by decide +kernel) rfl rfl (Nat.le_of_ble_eq_true rfl) dX3_init_20 (fun H locs hP hD hS => ?_)
  have hP : va_P D vwCl [(h, .inr (3, [.null, .null, .ref q1, .int 0, .ref q3, .null, .null])), (q1, .inr (7, [.int 0, .ref (w2 1), .ref (w2 2), .ref (w2 3)])), ((w2 1), .inl (cI, 64, .inl (fun _ => 0))), ((w2 2), .inl (cI, 64, .inl (fun _ => 0))), ((w2 3), .inl (cI, 64, .inl (fun _ => 0))), (q3, .inl (cI, 16, .inl (fun _ => 0)))] H := hP
  have hD : va_D A [(h, .inr (3, [.null, .null, .ref q1, .int 0, .ref q3, .null, .null])), (q1, .inr (7, [.int 0, .ref (w2 1), .ref (w2 2), .ref (w2 3)])), ((w2 1), .inl (cI, 64, .inl (fun _ => 0))), ((w2 2), .inl (cI, 64, .inl (fun _ => 0))), ((w2 3), .inl (cI, 64, .inl (fun _ => 0))), (q3, .inl (cI, 16, .inl (fun _ => 0)))] := hD
  refine lv_aload_n hx hb dX3_init_23 rfl (lv_at hl 0 rfl) ?_
  refine lv_bipush (v := 16) hx hb dX3_init_24 (by decide) ?_
  refine nw_a (atype := .int) (ty := .int) (t0 := 0) (a0 := (16, .inl (fun _ => 0))) hx hb (hgt _ wd_0_92) rfl hK rfl hP hD hS hA (fun _ => rfl) (by decide) rfl (by decide) (Nat.le_of_ble_eq_true rfl) (Nat.le_of_ble_eq_true rfl) dX3_init_26 (fun q4 H hP hD hS => ?_)
  have hP : va_P D vwCl [(h, .inr (3, [.null, .null, .ref q1, .int 0, .ref q3, .null, .null])), (q1, .inr (7, [.int 0, .ref (w2 1), .ref (w2 2), .ref (w2 3)])), ((w2 1), .inl (cI, 64, .inl (fun _ => 0))), ((w2 2), .inl (cI, 64, .inl (fun _ => 0))), ((w2 3), .inl (cI, 64, .inl (fun _ => 0))), (q3, .inl (cI, 16, .inl (fun _ => 0))), (q4, .inl (cI, 16, .inl (fun _ => 0)))] H := hP
  have hD : va_D A [(h, .inr (3, [.null, .null, .ref q1, .int 0, .ref q3, .null, .null])), (q1, .inr (7, [.int 0, .ref (w2 1), .ref (w2 2), .ref (w2 3)])), ((w2 1), .inl (cI, 64, .inl (fun _ => 0))), ((w2 2), .inl (cI, 64, .inl (fun _ => 0))), ((w2 3), .inl (cI, 64, .inl (fun _ => 0))), (q3, .inl (cI, 16, .inl (fun _ => 0))), (q4, .inl (cI, 16, .inl (fun _ => 0)))] := hD
  refine va_putF (D := D) (ci := 3) (v := .ref q4) (ty := .array .int) (C := RX3) (T := TX3) (N := 7) hx hb hgt iwX3 tyX3 tyX3_ok nmX3 hown hK hP hD hS 0 rfl rfl 5 (Nat.le_of_ble_eq_true rfl) (hgt _ wd_1_134) (fun _ h9 => h9) rfl hin rfl (by decide +kernel) rfl rfl (Nat.le_of_ble_eq_true rfl) dX3_init_28 (fun H locs hP hD hS => ?_)
  have hP : va_P D vwCl [(h, .inr (3, [.null, .null, .ref q1, .int 0, .ref q3, .ref q4, .null])), (q1, .inr (7, [.int 0, .ref (w2 1), .ref (w2 2), .ref (w2 3)])), ((w2 1), .inl (cI, 64, .inl (fun _ => 0))), ((w2 2), .inl (cI, 64, .inl (fun _ => 0))), ((w2 3), .inl (cI, 64, .inl (fun _ => 0))), (q3, .inl (cI, 16, .inl (fun _ => 0))), (q4, .inl (cI, 16, .inl (fun _ => 0)))] H := hP
  have hD : va_D A [(h, .inr (3, [.null, .null, .ref q1, .int 0, .ref q3, .ref q4, .null])), (q1, .inr (7, [.int 0, .ref (w2 1), .ref (w2 2), .ref (w2 3)])), ((w2 1), .inl (cI, 64, .inl (fun _ => 0))), ((w2 2), .inl (cI, 64, .inl (fun _ => 0))), ((w2 3), .inl (cI, 64, .inl (fun _ => 0))), (q3, .inl (cI, 16, .inl (fun _ => 0))), (q4, .inl (cI, 16, .inl (fun _ => 0)))] := hD
  refine lv_aload_n hx hb dX3_init_31 rfl (lv_at hl 0 rfl) ?_
  refine lv_bipush (v := 26) hx hb dX3_init_32 (by decide) ?_
  refine nw_a (atype := .int) (ty := .int) (t0 := 0) (a0 := (26, .inl (fun _ => 0))) hx hb (hgt _ wd_0_92) rfl hK rfl hP hD hS hA (fun _ => rfl) (by decide) rfl (by decide) (Nat.le_of_ble_eq_true rfl) (Nat.le_of_ble_eq_true rfl) dX3_init_34 (fun q5 H hP hD hS => ?_)
  have hP : va_P D vwCl [(h, .inr (3, [.null, .null, .ref q1, .int 0, .ref q3, .ref q4, .null])), (q1, .inr (7, [.int 0, .ref (w2 1), .ref (w2 2), .ref (w2 3)])), ((w2 1), .inl (cI, 64, .inl (fun _ => 0))), ((w2 2), .inl (cI, 64, .inl (fun _ => 0))), ((w2 3), .inl (cI, 64, .inl (fun _ => 0))), (q3, .inl (cI, 16, .inl (fun _ => 0))), (q4, .inl (cI, 16, .inl (fun _ => 0))), (q5, .inl (cI, 26, .inl (fun _ => 0)))] H := hP
  have hD : va_D A [(h, .inr (3, [.null, .null, .ref q1, .int 0, .ref q3, .ref q4, .null])), (q1, .inr (7, [.int 0, .ref (w2 1), .ref (w2 2), .ref (w2 3)])), ((w2 1), .inl (cI, 64, .inl (fun _ => 0))), ((w2 2), .inl (cI, 64, .inl (fun _ => 0))), ((w2 3), .inl (cI, 64, .inl (fun _ => 0))), (q3, .inl (cI, 16, .inl (fun _ => 0))), (q4, .inl (cI, 16, .inl (fun _ => 0))), (q5, .inl (cI, 26, .inl (fun _ => 0)))] := hD
  refine va_putF (D := D) (ci := 3) (v := .ref q5) (ty := .array .int) (C := RX3) (T := TX3) (N := 7) hx hb hgt iwX3 tyX3 tyX3_ok nmX3 hown hK hP hD hS 0 rfl rfl 6 (Nat.le_of_ble_eq_true rfl) (hgt _ wd_1_136) (fun _ h9 => h9) rfl hin rfl (by decide +kernel) rfl rfl (Nat.le_of_ble_eq_true rfl) dX3_init_36 (fun H locs hP hD hS => ?_)
  have hP : va_P D vwCl [(h, .inr (3, [.null, .null, .ref q1, .int 0, .ref q3, .ref q4, .ref q5])), (q1, .inr (7, [.int 0, .ref (w2 1), .ref (w2 2), .ref (w2 3)])), ((w2 1), .inl (cI, 64, .inl (fun _ => 0))), ((w2 2), .inl (cI, 64, .inl (fun _ => 0))), ((w2 3), .inl (cI, 64, .inl (fun _ => 0))), (q3, .inl (cI, 16, .inl (fun _ => 0))), (q4, .inl (cI, 16, .inl (fun _ => 0))), (q5, .inl (cI, 26, .inl (fun _ => 0)))] H := hP
  have hD : va_D A [(h, .inr (3, [.null, .null, .ref q1, .int 0, .ref q3, .ref q4, .ref q5])), (q1, .inr (7, [.int 0, .ref (w2 1), .ref (w2 2), .ref (w2 3)])), ((w2 1), .inl (cI, 64, .inl (fun _ => 0))), ((w2 2), .inl (cI, 64, .inl (fun _ => 0))), ((w2 3), .inl (cI, 64, .inl (fun _ => 0))), (q3, .inl (cI, 16, .inl (fun _ => 0))), (q4, .inl (cI, 16, .inl (fun _ => 0))), (q5, .inl (cI, 26, .inl (fun _ => 0)))] := hD
  refine lv_aload_n hx hb dX3_init_39 rfl (lv_at hl 0 rfl) ?_
  refine lv_aload_n hx hb dX3_init_40 rfl (lv_at hl 1 rfl) ?_
  refine va_putF (D := D) (ci := 3) (v := .ref ly) (ty := .object "ChipMap$Layout") (C := RX3) (T := TX3) (N := 7) hx hb hgt iwX3 tyX3 tyX3_ok nmX3 hown hK hP hD hS 0 rfl rfl 0 (Nat.le_of_ble_eq_true rfl) (hgt _ wd_1_126) (fun _ h9 => h9) rfl hin rfl (by decide +kernel) rfl rfl (Nat.le_of_ble_eq_true rfl) dX3_init_41 (fun H locs hP hD hS => ?_)
  have hP : va_P D vwCl [(h, .inr (3, [.ref ly, .null, .ref q1, .int 0, .ref q3, .ref q4, .ref q5])), (q1, .inr (7, [.int 0, .ref (w2 1), .ref (w2 2), .ref (w2 3)])), ((w2 1), .inl (cI, 64, .inl (fun _ => 0))), ((w2 2), .inl (cI, 64, .inl (fun _ => 0))), ((w2 3), .inl (cI, 64, .inl (fun _ => 0))), (q3, .inl (cI, 16, .inl (fun _ => 0))), (q4, .inl (cI, 16, .inl (fun _ => 0))), (q5, .inl (cI, 26, .inl (fun _ => 0)))] H := hP
  have hD : va_D A [(h, .inr (3, [.ref ly, .null, .ref q1, .int 0, .ref q3, .ref q4, .ref q5])), (q1, .inr (7, [.int 0, .ref (w2 1), .ref (w2 2), .ref (w2 3)])), ((w2 1), .inl (cI, 64, .inl (fun _ => 0))), ((w2 2), .inl (cI, 64, .inl (fun _ => 0))), ((w2 3), .inl (cI, 64, .inl (fun _ => 0))), (q3, .inl (cI, 16, .inl (fun _ => 0))), (q4, .inl (cI, 16, .inl (fun _ => 0))), (q5, .inl (cI, 26, .inl (fun _ => 0)))] := hD
  refine lv_aload_n hx hb dX3_init_44 rfl (lv_at hl 0 rfl) ?_
  refine va_new (D := D) (ci := 8) (fs := [.null, .null, .int 0]) (C := RX8) (T := TX8) (N := 3) hx hb hgt iwX8 tyX8 tyX8_ok hown (hgt _ wd_1_106) (hgt _ wd_1_107) (hgt _ wd_0_11) hK hP hD hS hA rfl (by decide +kernel) (Nat.le_of_ble_eq_true rfl) (Nat.le_of_ble_eq_true rfl) dX3_init_45 (fun q6 H hP hD hS => ?_)
  have hP : va_P D vwCl [(h, .inr (3, [.ref ly, .null, .ref q1, .int 0, .ref q3, .ref q4, .ref q5])), (q1, .inr (7, [.int 0, .ref (w2 1), .ref (w2 2), .ref (w2 3)])), ((w2 1), .inl (cI, 64, .inl (fun _ => 0))), ((w2 2), .inl (cI, 64, .inl (fun _ => 0))), ((w2 3), .inl (cI, 64, .inl (fun _ => 0))), (q3, .inl (cI, 16, .inl (fun _ => 0))), (q4, .inl (cI, 16, .inl (fun _ => 0))), (q5, .inl (cI, 26, .inl (fun _ => 0))), (q6, .inr (8, [.null, .null, .int 0]))] H := hP
  have hD : va_D A [(h, .inr (3, [.ref ly, .null, .ref q1, .int 0, .ref q3, .ref q4, .ref q5])), (q1, .inr (7, [.int 0, .ref (w2 1), .ref (w2 2), .ref (w2 3)])), ((w2 1), .inl (cI, 64, .inl (fun _ => 0))), ((w2 2), .inl (cI, 64, .inl (fun _ => 0))), ((w2 3), .inl (cI, 64, .inl (fun _ => 0))), (q3, .inl (cI, 16, .inl (fun _ => 0))), (q4, .inl (cI, 16, .inl (fun _ => 0))), (q5, .inl (cI, 26, .inl (fun _ => 0))), (q6, .inr (8, [.null, .null, .int 0]))] := hD
  refine lv_dup hx hb dX3_init_48 rfl ?_
  refine lv_aload_n hx hb dX3_init_49 rfl (lv_at hl 1 rfl) ?_
  have hPc := hP.sub (ws' := [(q6, .inr (8, [.null, .null, .int 0]))]) [8] rfl
  have hDc := hD.sub (ws' := [(q6, .inr (8, [.null, .null, .int 0]))]) [8] (by decide) rfl
  have hFc := va_free (wc := [(q6, .inr (8, [.null, .null, .int 0]))]) hD hS hA [8] rfl
  refine va_callv (va_runI (As := [.ref ly]) (rest := [.ref q6, .ref h]) ⟨hx, hb, hml, hown, hgt⟩ (k_Mind l D cI cZ cC cJ q6 ly H.size) (cwI 1 hgt (gC wd_1_110) rfl rfl rfl (hgt _ wd_0_11) (hgt _ wd_1_108) (hgt _ wd_1_109) rfl (by decide +kernel) ⟨Nat.le_of_ble_eq_true rfl, Nat.le_of_ble_eq_true rfl⟩) ⟨fun a U g mk q => by obtain ⟨q0, q1, qP, qK, qD⟩ := q; exact ⟨q0, q1, qP, va_K.moved (u := U) (U := U.calling g mk a) (Vm.Alike.refl U.vm) qK, qD⟩, fun U hU hW => ⟨rfl, by rw [hU], by rw [hU]; exact hPc, va_K.moved hW.alike hK, hDc.weaken (fun _ _ _ _ => trivial)⟩⟩ rfl rfl hl.1 rfl (lv_room (Nat.le_of_ble_eq_true rfl)) dX3_init_50 ⟨Nat.le_of_ble_eq_true rfl, Nat.le_of_ble_eq_true rfl⟩) hS (fun q _ h => hFc q h) hFc (fun u t H1 locs ht hvm hw hB hz1 hk1 hS => ?_)
  obtain ⟨w7, hP1, hD1⟩ := hB
  rw [ht] at hP1
  obtain ⟨hP, hD⟩ := va_join (wr := [(h, .inr (3, [.ref ly, .null, .ref q1, .int 0, .ref q3, .ref q4, .ref q5])), (q1, .inr (7, [.int 0, .ref (w2 1), .ref (w2 2), .ref (w2 3)])), ((w2 1), .inl (cI, 64, .inl (fun _ => 0))), ((w2 2), .inl (cI, 64, .inl (fun _ => 0))), ((w2 3), .inl (cI, 64, .inl (fun _ => 0))), (q3, .inl (cI, 16, .inl (fun _ => 0))), (q4, .inl (cI, 16, .inl (fun _ => 0))), (q5, .inl (cI, 26, .inl (fun _ => 0)))]) (w1 := [(q6, .inr (8, [.ref ly, .ref (w7 1), .int 0])), ((w7 1), .inl (cI, 16, .inl (fun _ => 0)))]) hP hD [8] [0, 1, 2, 3, 4, 5, 6, 7] rfl rfl (by decide) (by decide) hk1 hFc hP1 hD1
  generalize H1 = H at hP hS ⊢
  have hP : va_P D vwCl [(h, .inr (3, [.ref ly, .null, .ref q1, .int 0, .ref q3, .ref q4, .ref q5])), (q1, .inr (7, [.int 0, .ref (w2 1), .ref (w2 2), .ref (w2 3)])), ((w2 1), .inl (cI, 64, .inl (fun _ => 0))), ((w2 2), .inl (cI, 64, .inl (fun _ => 0))), ((w2 3), .inl (cI, 64, .inl (fun _ => 0))), (q3, .inl (cI, 16, .inl (fun _ => 0))), (q4, .inl (cI, 16, .inl (fun _ => 0))), (q5, .inl (cI, 26, .inl (fun _ => 0))), (q6, .inr (8, [.ref ly, .ref (w7 1), .int 0])), ((w7 1), .inl (cI, 16, .inl (fun _ => 0)))] H := hP
  have hD : va_D A [(h, .inr (3, [.ref ly, .null, .ref q1, .int 0, .ref q3, .ref q4, .ref q5])), (q1, .inr (7, [.int 0, .ref (w2 1), .ref (w2 2), .ref (w2 3)])), ((w2 1), .inl (cI, 64, .inl (fun _ => 0))), ((w2 2), .inl (cI, 64, .inl (fun _ => 0))), ((w2 3), .inl (cI, 64, .inl (fun _ => 0))), (q3, .inl (cI, 16, .inl (fun _ => 0))), (q4, .inl (cI, 16, .inl (fun _ => 0))), (q5, .inl (cI, 26, .inl (fun _ => 0))), (q6, .inr (8, [.ref ly, .ref (w7 1), .int 0])), ((w7 1), .inl (cI, 16, .inl (fun _ => 0)))] := hD
  refine va_putF (D := D) (ci := 3) (v := .ref q6) (ty := .object "ChipMap$Mind") (C := RX3) (T := TX3) (N := 7) hx hb hgt iwX3 tyX3 tyX3_ok nmX3 hown hK hP hD hS 0 rfl rfl 1 (Nat.le_of_ble_eq_true rfl) (hgt _ wd_1_127) (fun _ h9 => h9) rfl hin rfl (by decide +kernel) rfl rfl (Nat.le_of_ble_eq_true rfl) dX3_init_53 (fun H locs hP hD hS => ?_)
  have hP : va_P D vwCl [(h, .inr (3, [.ref ly, .ref q6, .ref q1, .int 0, .ref q3, .ref q4, .ref q5])), (q1, .inr (7, [.int 0, .ref (w2 1), .ref (w2 2), .ref (w2 3)])), ((w2 1), .inl (cI, 64, .inl (fun _ => 0))), ((w2 2), .inl (cI, 64, .inl (fun _ => 0))), ((w2 3), .inl (cI, 64, .inl (fun _ => 0))), (q3, .inl (cI, 16, .inl (fun _ => 0))), (q4, .inl (cI, 16, .inl (fun _ => 0))), (q5, .inl (cI, 26, .inl (fun _ => 0))), (q6, .inr (8, [.ref ly, .ref (w7 1), .int 0])), ((w7 1), .inl (cI, 16, .inl (fun _ => 0)))] H := hP
  have hD : va_D A [(h, .inr (3, [.ref ly, .ref q6, .ref q1, .int 0, .ref q3, .ref q4, .ref q5])), (q1, .inr (7, [.int 0, .ref (w2 1), .ref (w2 2), .ref (w2 3)])), ((w2 1), .inl (cI, 64, .inl (fun _ => 0))), ((w2 2), .inl (cI, 64, .inl (fun _ => 0))), ((w2 3), .inl (cI, 64, .inl (fun _ => 0))), (q3, .inl (cI, 16, .inl (fun _ => 0))), (q4, .inl (cI, 16, .inl (fun _ => 0))), (q5, .inl (cI, 26, .inl (fun _ => 0))), (q6, .inr (8, [.ref ly, .ref (w7 1), .int 0])), ((w7 1), .inl (cI, 16, .inl (fun _ => 0)))] := hD
  have hP9 := hP.sub (ws' := [(h, .inr (3, [.ref ly, .ref q6, .ref q1, .int 0, .ref q3, .ref q4, .ref q5])), (q6, .inr (8, [.ref ly, .ref (w7 1), .int 0])), ((w7 1), .inl (cI, 16, .inl (fun _ => 0))), (q1, .inr (7, [.int 0, .ref (w2 1), .ref (w2 2), .ref (w2 3)])), ((w2 1), .inl (cI, 64, .inl (fun _ => 0))), ((w2 2), .inl (cI, 64, .inl (fun _ => 0))), ((w2 3), .inl (cI, 64, .inl (fun _ => 0))), (q3, .inl (cI, 16, .inl (fun _ => 0))), (q4, .inl (cI, 16, .inl (fun _ => 0))), (q5, .inl (cI, 26, .inl (fun _ => 0)))]) [0, 8, 9, 1, 2, 3, 4, 5, 6, 7] rfl
  have hD9 := hD.sub (ws' := [(h, .inr (3, [.ref ly, .ref q6, .ref q1, .int 0, .ref q3, .ref q4, .ref q5])), (q6, .inr (8, [.ref ly, .ref (w7 1), .int 0])), ((w7 1), .inl (cI, 16, .inl (fun _ => 0))), (q1, .inr (7, [.int 0, .ref (w2 1), .ref (w2 2), .ref (w2 3)])), ((w2 1), .inl (cI, 64, .inl (fun _ => 0))), ((w2 2), .inl (cI, 64, .inl (fun _ => 0))), ((w2 3), .inl (cI, 64, .inl (fun _ => 0))), (q3, .inl (cI, 16, .inl (fun _ => 0))), (q4, .inl (cI, 16, .inl (fun _ => 0))), (q5, .inl (cI, 26, .inl (fun _ => 0)))]) [0, 8, 9, 1, 2, 3, 4, 5, 6, 7] (by decide) rfl
  refine W.widen (k := 9) (n := 273) (Nat.le_of_ble_eq_true rfl) (Nat.le_of_ble_eq_true rfl) ?_
  exact W.vret hx hb hr (fun t ht hW => ⟨⟨(), rfl, trivial, (rl [0, q6, (w7 1), q1, (w2 1), (w2 2), (w2 3), q3, q4, q5]), by rw [ht]; exact hP9, hD9⟩, hS.F ht⟩) hS.2.2 dX3_init_56
set_option maxHeartbeats 4000000 in
set_option maxRecDepth 100000 in
theorem k_Plan (l : Launch) (D : va_G) (cI cZ cC cJ : ClassId) (h : Nat) (ly : Nat) (sz : Nat) : Met l yX9_init wsX9_init ({ frames := 2, cells := 4, slots := 51, locals := 33 }) (va_Pc [.ref h, .ref ly] (fun U => U.heap.size = sz ∧ va_P D vwCl [(h, .inr (9, [.null, .null, .int 0, .null, .null, .int 0]))] U.heap ∧ va_K D vwCl [(cI, .int), (cZ, .boolean), (cC, .char), (cJ, .long)] U ∧ va_D (fun _ => True) [(h, .inr (9, [.null, .null, .int 0, .null, .null, .int 0]))])) (va_Qv (fun (_ : Unit) => True) (fun _ t => ∃ (r : Nat → Nat), va_P D vwCl [(h, .inr (9, [.ref ly, .ref (r 1), .int 0, .ref (r 3), .ref (r 4), .int 0])), ((r 1), .inr (8, [.ref ly, .ref (r 2), .int 0])), ((r 2), .inl (cI, 16, .inl (fun _ => 0))), ((r 3), .inl (cI, 16, .inl (fun _ => 0))), ((r 4), .inl (cI, 16, .inl (fun _ => 0)))] t.heap ∧ va_D (va_A [(h, .inr (9, [.null, .null, .int 0, .null, .null, .int 0]))] sz) [(h, .inr (9, [.ref ly, .ref (r 1), .int 0, .ref (r 3), .ref (r 4), .int 0])), ((r 1), .inr (8, [.ref ly, .ref (r 2), .int 0])), ((r 2), .inl (cI, 16, .inl (fun _ => 0))), ((r 3), .inl (cI, 16, .inl (fun _ => 0))), ((r 4), .inl (cI, 16, .inl (fun _ => 0)))]) (va_A [(h, .inr (9, [.null, .null, .int 0, .null, .null, .int 0]))] sz)) 4 51 (va_A [(h, .inr (9, [.null, .null, .int 0, .null, .null, .int 0]))] sz) := by
  refine Met.ofW (cc := cX9_init) (maxL := 2) (ret := none) (by decide) rfl ?_
  intro p e s m args below meth c s₁ B hml hv
  obtain ⟨rfl, hsz, hP, hK, hD0⟩ := hv
  have hx := B.exec
  have hb := B.bytes
  have hr := B.returns
  have hgt := fun w (h : w ∈ GT) => atoms_spec (ws := wsX9_init) B.pre w (List.mem_cons_of_mem _ h)
  have hown : s.vm.findClass RX9 = some m.cls := findClass_of_methodNamed B.named
  have hlocks := B.notSynchronized
  have hin : meth.name = "<init>" := (name_of_methodNamed B.named B.method).1
  subst hsz
  have hD := hD0.self (sz := s.heap.size)
  generalize hAe : va_A [(h, .inr (9, [.null, .null, .int 0, .null, .null, .int 0]))] s.heap.size = A at hD ⊢
  have hA : ∀ q : Nat, s.heap.size ≤ q → A q := fun q h => by rw [← hAe]; exact Or.inr h
  have hS : va_S A s.heap s.heap [] := va_S.rf
  have hP : va_P D vwCl [(h, .inr (9, [.null, .null, .int 0, .null, .null, .int 0]))] s.heap := hP
  have hl := lv_entry ([.ref h, .ref ly]) (n := 2) (Nat.le_of_ble_eq_true rfl)
  rw [lg_entry_eq]
  generalize (lg_sl ([.ref h, .ref ly]) ++ List.replicate (2 - (lg_sl ([.ref h, .ref ly])).length) Slot.unset).toArray = ls at hl ⊢
  have hl : lv_has ls 2 [(0, .ref h), (1, .ref ly)] := hl
  refine lv_aload_n hx hb dX9_init_0 rfl (lv_at hl 0 rfl) ?_
  refine W.objInit hx hb hown (hgt _ wd_1_157) (hgt _ wd_0_35) (hgt _ wd_0_36) rfl (by rw [hml]; exact hl.1) rfl dX9_init_1 (Nat.le_of_ble_eq_true rfl) (Nat.le_of_ble_eq_true rfl) ?_
  refine W.eq (g2 := F0 m 4 ls []) rfl ?_
  refine lv_aload_n hx hb dX9_init_4 rfl (lv_at hl 0 rfl) ?_
  refine lv_bipush (v := 16) hx hb dX9_init_5 (by decide) ?_
  refine nw_a (atype := .int) (ty := .int) (t0 := 0) (a0 := (16, .inl (fun _ => 0))) hx hb (hgt _ wd_0_92) rfl hK rfl hP hD hS hA (fun _ => rfl) (by decide) rfl (by decide) (Nat.le_of_ble_eq_true rfl) (Nat.le_of_ble_eq_true rfl) dX9_init_7 (fun q1 H hP hD hS => ?_)
  have hP : va_P D vwCl [(h, .inr (9, [.null, .null, .int 0, .null, .null, .int 0])), (q1, .inl (cI, 16, .inl (fun _ => 0)))] H := hP
  have hD : va_D A [(h, .inr (9, [.null, .null, .int 0, .null, .null, .int 0])), (q1, .inl (cI, 16, .inl (fun _ => 0)))] := hD
  refine va_putF (D := D) (ci := 9) (v := .ref q1) (ty := .array .int) (C := RX9) (T := TX9) (N := 6) hx hb hgt iwX9 tyX9 tyX9_ok nmX9 hown hK hP hD hS 0 rfl rfl 3 (Nat.le_of_ble_eq_true rfl) (hgt _ wd_1_165) (fun _ h9 => h9) rfl hin rfl (by decide +kernel) rfl rfl (Nat.le_of_ble_eq_true rfl) dX9_init_9 (fun H locs hP hD hS => ?_)
  have hP : va_P D vwCl [(h, .inr (9, [.null, .null, .int 0, .ref q1, .null, .int 0])), (q1, .inl (cI, 16, .inl (fun _ => 0)))] H := hP
  have hD : va_D A [(h, .inr (9, [.null, .null, .int 0, .ref q1, .null, .int 0])), (q1, .inl (cI, 16, .inl (fun _ => 0)))] := hD
  refine lv_aload_n hx hb dX9_init_12 rfl (lv_at hl 0 rfl) ?_
  refine lv_bipush (v := 16) hx hb dX9_init_13 (by decide) ?_
  refine nw_a (atype := .int) (ty := .int) (t0 := 0) (a0 := (16, .inl (fun _ => 0))) hx hb (hgt _ wd_0_92) rfl hK rfl hP hD hS hA (fun _ => rfl) (by decide) rfl (by decide) (Nat.le_of_ble_eq_true rfl) (Nat.le_of_ble_eq_true rfl) dX9_init_15 (fun q2 H hP hD hS => ?_)
  have hP : va_P D vwCl [(h, .inr (9, [.null, .null, .int 0, .ref q1, .null, .int 0])), (q1, .inl (cI, 16, .inl (fun _ => 0))), (q2, .inl (cI, 16, .inl (fun _ => 0)))] H := hP
  have hD : va_D A [(h, .inr (9, [.null, .null, .int 0, .ref q1, .null, .int 0])), (q1, .inl (cI, 16, .inl (fun _ => 0))), (q2, .inl (cI, 16, .inl (fun _ => 0)))] := hD
  refine va_putF (D := D) (ci := 9) (v := .ref q2) (ty := .array .int) (C := RX9) (T := TX9) (N := 6) hx hb hgt iwX9 tyX9 tyX9_ok nmX9 hown hK hP hD hS 0 rfl rfl 4 (Nat.le_of_ble_eq_true rfl) (hgt _ wd_1_167) (fun _ h9 => h9) rfl hin rfl (by decide +kernel) rfl rfl (Nat.le_of_ble_eq_true rfl) dX9_init_17 (fun H locs hP hD hS => ?_)
  have hP : va_P D vwCl [(h, .inr (9, [.null, .null, .int 0, .ref q1, .ref q2, .int 0])), (q1, .inl (cI, 16, .inl (fun _ => 0))), (q2, .inl (cI, 16, .inl (fun _ => 0)))] H := hP
  have hD : va_D A [(h, .inr (9, [.null, .null, .int 0, .ref q1, .ref q2, .int 0])), (q1, .inl (cI, 16, .inl (fun _ => 0))), (q2, .inl (cI, 16, .inl (fun _ => 0)))] := hD
  refine lv_aload_n hx hb dX9_init_20 rfl (lv_at hl 0 rfl) ?_
  refine lv_aload_n hx hb dX9_init_21 rfl (lv_at hl 1 rfl) ?_
  refine va_putF (D := D) (ci := 9) (v := .ref ly) (ty := .object "ChipMap$Layout") (C := RX9) (T := TX9) (N := 6) hx hb hgt iwX9 tyX9 tyX9_ok nmX9 hown hK hP hD hS 0 rfl rfl 0 (Nat.le_of_ble_eq_true rfl) (hgt _ wd_1_160) (fun _ h9 => h9) rfl hin rfl (by decide +kernel) rfl rfl (Nat.le_of_ble_eq_true rfl) dX9_init_22 (fun H locs hP hD hS => ?_)
  have hP : va_P D vwCl [(h, .inr (9, [.ref ly, .null, .int 0, .ref q1, .ref q2, .int 0])), (q1, .inl (cI, 16, .inl (fun _ => 0))), (q2, .inl (cI, 16, .inl (fun _ => 0)))] H := hP
  have hD : va_D A [(h, .inr (9, [.ref ly, .null, .int 0, .ref q1, .ref q2, .int 0])), (q1, .inl (cI, 16, .inl (fun _ => 0))), (q2, .inl (cI, 16, .inl (fun _ => 0)))] := hD
  refine lv_aload_n hx hb dX9_init_25 rfl (lv_at hl 0 rfl) ?_
  refine va_new (D := D) (ci := 8) (fs := [.null, .null, .int 0]) (C := RX8) (T := TX8) (N := 3) hx hb hgt iwX8 tyX8 tyX8_ok hown (hgt _ wd_1_158) (hgt _ wd_1_107) (hgt _ wd_0_11) hK hP hD hS hA rfl (by decide +kernel) (Nat.le_of_ble_eq_true rfl) (Nat.le_of_ble_eq_true rfl) dX9_init_26 (fun q3 H hP hD hS => ?_)
  have hP : va_P D vwCl [(h, .inr (9, [.ref ly, .null, .int 0, .ref q1, .ref q2, .int 0])), (q1, .inl (cI, 16, .inl (fun _ => 0))), (q2, .inl (cI, 16, .inl (fun _ => 0))), (q3, .inr (8, [.null, .null, .int 0]))] H := hP
  have hD : va_D A [(h, .inr (9, [.ref ly, .null, .int 0, .ref q1, .ref q2, .int 0])), (q1, .inl (cI, 16, .inl (fun _ => 0))), (q2, .inl (cI, 16, .inl (fun _ => 0))), (q3, .inr (8, [.null, .null, .int 0]))] := hD
  refine lv_dup hx hb dX9_init_29 rfl ?_
  refine lv_aload_n hx hb dX9_init_30 rfl (lv_at hl 1 rfl) ?_
  have hPc := hP.sub (ws' := [(q3, .inr (8, [.null, .null, .int 0]))]) [3] rfl
  have hDc := hD.sub (ws' := [(q3, .inr (8, [.null, .null, .int 0]))]) [3] (by decide) rfl
  have hFc := va_free (wc := [(q3, .inr (8, [.null, .null, .int 0]))]) hD hS hA [3] rfl
  refine va_callv (va_runI (As := [.ref ly]) (rest := [.ref q3, .ref h]) ⟨hx, hb, hml, hown, hgt⟩ (k_Mind l D cI cZ cC cJ q3 ly H.size) (cwI 1 hgt (gC wd_1_110) rfl rfl rfl (hgt _ wd_0_11) (hgt _ wd_1_159) (hgt _ wd_1_109) rfl (by decide +kernel) ⟨Nat.le_of_ble_eq_true rfl, Nat.le_of_ble_eq_true rfl⟩) ⟨fun a U g mk q => by obtain ⟨q0, q1, qP, qK, qD⟩ := q; exact ⟨q0, q1, qP, va_K.moved (u := U) (U := U.calling g mk a) (Vm.Alike.refl U.vm) qK, qD⟩, fun U hU hW => ⟨rfl, by rw [hU], by rw [hU]; exact hPc, va_K.moved hW.alike hK, hDc.weaken (fun _ _ _ _ => trivial)⟩⟩ rfl rfl hl.1 rfl (lv_room (Nat.le_of_ble_eq_true rfl)) dX9_init_31 ⟨Nat.le_of_ble_eq_true rfl, Nat.le_of_ble_eq_true rfl⟩) hS (fun q _ h => hFc q h) hFc (fun u t H1 locs ht hvm hw hB hz1 hk1 hS => ?_)
  obtain ⟨w4, hP1, hD1⟩ := hB
  rw [ht] at hP1
  obtain ⟨hP, hD⟩ := va_join (wr := [(h, .inr (9, [.ref ly, .null, .int 0, .ref q1, .ref q2, .int 0])), (q1, .inl (cI, 16, .inl (fun _ => 0))), (q2, .inl (cI, 16, .inl (fun _ => 0)))]) (w1 := [(q3, .inr (8, [.ref ly, .ref (w4 1), .int 0])), ((w4 1), .inl (cI, 16, .inl (fun _ => 0)))]) hP hD [3] [0, 1, 2] rfl rfl (by decide) (by decide) hk1 hFc hP1 hD1
  generalize H1 = H at hP hS ⊢
  have hP : va_P D vwCl [(h, .inr (9, [.ref ly, .null, .int 0, .ref q1, .ref q2, .int 0])), (q1, .inl (cI, 16, .inl (fun _ => 0))), (q2, .inl (cI, 16, .inl (fun _ => 0))), (q3, .inr (8, [.ref ly, .ref (w4 1), .int 0])), ((w4 1), .inl (cI, 16, .inl (fun _ => 0)))] H := hP
  have hD : va_D A [(h, .inr (9, [.ref ly, .null, .int 0, .ref q1, .ref q2, .int 0])), (q1, .inl (cI, 16, .inl (fun _ => 0))), (q2, .inl (cI, 16, .inl (fun _ => 0))), (q3, .inr (8, [.ref ly, .ref (w4 1), .int 0])), ((w4 1), .inl (cI, 16, .inl (fun _ => 0)))] := hD
  refine va_putF (D := D) (ci := 9) (v := .ref q3) (ty := .object "ChipMap$Mind") (C := RX9) (T := TX9) (N := 6) hx hb hgt iwX9 tyX9 tyX9_ok nmX9 hown hK hP hD hS 0 rfl rfl 1 (Nat.le_of_ble_eq_true rfl) (hgt _ wd_1_161) (fun _ h9 => h9) rfl hin rfl (by decide +kernel) rfl rfl (Nat.le_of_ble_eq_true rfl) dX9_init_34 (fun H locs hP hD hS => ?_)
  have hP : va_P D vwCl [(h, .inr (9, [.ref ly, .ref q3, .int 0, .ref q1, .ref q2, .int 0])), (q1, .inl (cI, 16, .inl (fun _ => 0))), (q2, .inl (cI, 16, .inl (fun _ => 0))), (q3, .inr (8, [.ref ly, .ref (w4 1), .int 0])), ((w4 1), .inl (cI, 16, .inl (fun _ => 0)))] H := hP
  have hD : va_D A [(h, .inr (9, [.ref ly, .ref q3, .int 0, .ref q1, .ref q2, .int 0])), (q1, .inl (cI, 16, .inl (fun _ => 0))), (q2, .inl (cI, 16, .inl (fun _ => 0))), (q3, .inr (8, [.ref ly, .ref (w4 1), .int 0])), ((w4 1), .inl (cI, 16, .inl (fun _ => 0)))] := hD
  have hP9 := hP.sub (ws' := [(h, .inr (9, [.ref ly, .ref q3, .int 0, .ref q1, .ref q2, .int 0])), (q3, .inr (8, [.ref ly, .ref (w4 1), .int 0])), ((w4 1), .inl (cI, 16, .inl (fun _ => 0))), (q1, .inl (cI, 16, .inl (fun _ => 0))), (q2, .inl (cI, 16, .inl (fun _ => 0)))]) [0, 3, 4, 1, 2] rfl
  have hD9 := hD.sub (ws' := [(h, .inr (9, [.ref ly, .ref q3, .int 0, .ref q1, .ref q2, .int 0])), (q3, .inr (8, [.ref ly, .ref (w4 1), .int 0])), ((w4 1), .inl (cI, 16, .inl (fun _ => 0))), (q1, .inl (cI, 16, .inl (fun _ => 0))), (q2, .inl (cI, 16, .inl (fun _ => 0)))]) [0, 3, 4, 1, 2] (by decide) rfl
  refine W.widen (k := 4) (n := 51) (Nat.le_of_ble_eq_true rfl) (Nat.le_of_ble_eq_true rfl) ?_
  exact W.vret hx hb hr (fun t ht hW => ⟨⟨(), rfl, trivial, (rl [0, q3, (w4 1), q1, q2]), by rw [ht]; exact hP9, hD9⟩, hS.F ht⟩) hS.2.2 dX9_init_37
