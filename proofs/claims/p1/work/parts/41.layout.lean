set_option maxHeartbeats 4000000 in
set_option maxRecDepth 100000 in
theorem s_coder (l : Launch) (D : va_G) (cI cZ cC cJ : ClassId) (s0 : State) (qs qv : Nat) (fb : Nat → Value) (hSt : StrF s0 qs qv fb) (hNw : NwF s0)  (sz : Nat) : Met l yJ0_coder wsJ0_coder ({ frames := 0, cells := 0, slots := 0, locals := 0 }) (va_Pc [.ref qs] (fun U => U.heap.size = sz ∧ va_P D vwCl [] U.heap ∧ va_K D vwCl [(cI, .int), (cZ, .boolean), (cC, .char), (cJ, .long)] U ∧ va_D (fun q => s0.heap.size ≤ q) [] ∧ Old s0 U)) (va_Qi (fun (r : Int32) (_ : Unit) => r = 0) (fun _ _ => True) (va_A [] sz)) 0 0 (va_A [] sz) := by
  refine Met.ofW (cc := cJ0_coder) (maxL := 1) (ret := (some .byte)) (by decide) rfl ?_
  intro p e s m args below meth c s₁ B hml hv
  obtain ⟨rfl, hsz, hP, hK, hD0, hO⟩ := hv
  have hx := B.exec
  have hb := B.bytes
  have hr := B.returns
  have hgt := fun w (h : w ∈ GT) => atoms_spec (ws := wsJ0_coder) B.pre w (List.mem_cons_of_mem _ h)
  have hown : s.vm.findClass RJ0 = some m.cls := findClass_of_methodNamed B.named
  have hlocks := B.notSynchronized
  subst hsz
  have hD := hD0.self (sz := s.heap.size)
  generalize hAe : va_A [] s.heap.size = A at hD ⊢
  have hA : ∀ q : Nat, s.heap.size ≤ q → A q := fun q h => by rw [← hAe]; exact Or.inr h
  have hAO : ∀ q : Nat, A q → s0.heap.size ≤ q := fun q h => by rw [← hAe] at h; exact old_in hD0 hO h
  have hS : va_S A s.heap s.heap [] := va_S.rf
  have hP : va_P D vwCl [] s.heap := hP
  have hl := lv_entry ([.ref qs]) (n := 1) (Nat.le_of_ble_eq_true rfl)
  rw [lg_entry_eq]
  generalize (lg_sl ([.ref qs]) ++ List.replicate (1 - (lg_sl ([.ref qs])).length) Slot.unset).toArray = ls at hl ⊢
  have hl : lv_has ls 1 [(0, .ref qs)] := hl
  refine va_gets hx hb (hSt.z hO hAO) hS hown (hgt _ wd_0_235) (fun _ h => h) dJ0_coder_0 ?_
  refine lv_if_eq hx hb dJ0_coder_3 (tgt := 13) rfl (fun h_3 => absurd h_3 (by decide)) (fun _ => ?_)
  refine lv_aload_n hx hb dJ0_coder_6 rfl (lv_at hl 0 rfl) ?_
  refine vk_getf hx hb (hSt.c hO hAO) hS hown (hgt _ wd_7_5) (fun _ h => h) dJ0_coder_7 ?_
  refine lv_goto hx hb dJ0_coder_10 (tgt := 14) rfl ?_
  refine W.widen (k := 0) (n := 0) (Nat.le_of_ble_eq_true rfl) (Nat.le_of_ble_eq_true rfl) ?_
  exact W.zret (v := 0) (ty := .byte) hx hb hr rfl (fun t ht hW => ⟨⟨0, (), rfl, rfl, trivial⟩, hS.F ht⟩) hS.2.2 dJ0_coder_14
set_option maxHeartbeats 4000000 in
set_option maxRecDepth 100000 in
theorem s_length (l : Launch) (D : va_G) (cI cZ cC cJ : ClassId) (s0 : State) (qs qv : Nat) (fb : Nat → Value) (hSt : StrF s0 qs qv fb) (hNw : NwF s0)  (sz : Nat) : Met l yJ0_length wsJ0_length ({ frames := 1, cells := 0, slots := 0, locals := 20 }) (va_Pc [.ref qs] (fun U => U.heap.size = sz ∧ va_P D vwCl [] U.heap ∧ va_K D vwCl [(cI, .int), (cZ, .boolean), (cC, .char), (cJ, .long)] U ∧ va_D (fun q => s0.heap.size ≤ q) [] ∧ Old s0 U)) (va_Qi (fun (r : Int32) (_ : Unit) => r = 7) (fun _ _ => True) (va_A [] sz)) 0 0 (va_A [] sz) := by
  refine Met.ofW (cc := cJ0_length) (maxL := 1) (ret := (some .int)) (by decide) rfl ?_
  intro p e s m args below meth c s₁ B hml hv
  obtain ⟨rfl, hsz, hP, hK, hD0, hO⟩ := hv
  have hx := B.exec
  have hb := B.bytes
  have hr := B.returns
  have hgt := fun w (h : w ∈ GT) => atoms_spec (ws := wsJ0_length) B.pre w (List.mem_cons_of_mem _ h)
  have hown : s.vm.findClass RJ0 = some m.cls := findClass_of_methodNamed B.named
  have hlocks := B.notSynchronized
  subst hsz
  have hD := hD0.self (sz := s.heap.size)
  generalize hAe : va_A [] s.heap.size = A at hD ⊢
  have hA : ∀ q : Nat, s.heap.size ≤ q → A q := fun q h => by rw [← hAe]; exact Or.inr h
  have hAO : ∀ q : Nat, A q → s0.heap.size ≤ q := fun q h => by rw [← hAe] at h; exact old_in hD0 hO h
  have hS : va_S A s.heap s.heap [] := va_S.rf
  have hP : va_P D vwCl [] s.heap := hP
  have hl := lv_entry ([.ref qs]) (n := 1) (Nat.le_of_ble_eq_true rfl)
  rw [lg_entry_eq]
  generalize (lg_sl ([.ref qs]) ++ List.replicate (1 - (lg_sl ([.ref qs])).length) Slot.unset).toArray = ls at hl ⊢
  have hl : lv_has ls 1 [(0, .ref qs)] := hl
  refine lv_aload_n hx hb dJ0_length_0 rfl (lv_at hl 0 rfl) ?_
  refine vk_getf hx hb (hSt.v hO hAO) hS hown (hgt _ wd_7_4) (fun _ h => h) dJ0_length_1 ?_
  refine va_tlen (v := 7) hx hb (hSt.t hO hAO) hS (by decide) dJ0_length_4 ?_
  refine lv_aload_n hx hb dJ0_length_5 rfl (lv_at hl 0 rfl) ?_
  have hFc := va_free (wc := []) hD hS hA [] rfl
  refine va_calli (va_runV (As := []) (rest := [.int 7]) ⟨hx, hb, hml, hown, hgt⟩ (s_coder l D cI cZ cC cJ s0 qs qv fb hSt hNw s.heap.size) (cwV 0 hgt (gV wd_0_231 wd_0_232 wd_0_233 wd_0_7 wd_0_234) rfl rfl rfl (by decide +kernel) ⟨Nat.le_of_ble_eq_true rfl, Nat.le_of_ble_eq_true rfl⟩) ⟨fun a U g mk q => by obtain ⟨q0, q1, qP, qK, qD, qO⟩ := q; exact ⟨q0, q1, qP, va_K.moved (u := U) (U := U.calling g mk a) (Vm.Alike.refl U.vm) qK, qD, qO⟩, hSt.recv hO hAO hS, fun U hU hW => ⟨rfl, by rw [hU], fun k q h => by simp at h, va_K.moved hW.alike hK, ⟨fun i j p q h => by simp at h, fun k q h => by simp at h⟩, Old.step hO hAO hS hU hW⟩⟩ rfl rfl hl.1 rfl (lv_room (Nat.le_of_ble_eq_true rfl)) dJ0_length_6 ⟨Nat.le_of_ble_eq_true rfl, Nat.le_of_ble_eq_true rfl⟩) hS (fun q _ h => hFc q h) hFc (fun r u t H1 locs ht hvm hw hB hz1 hk1 hS => ?_)
  have hP1 : va_P D vwCl [] H1 := fun k q h => by simp at h
  have hD1 : va_D (va_A [] s.heap.size) [] := ⟨fun i j p q h => by simp at h, fun k q h => by simp at h⟩
  obtain ⟨hP, hD⟩ := va_join (wr := []) (w1 := []) hP hD [] [] rfl rfl (by decide) (by decide) hk1 hFc hP1 hD1
  generalize H1 = H at hP hS ⊢
  have hP : va_P D vwCl [] H := hP
  have hD : va_D A [] := hD
  obtain rfl : r = 0 := hw
  refine lv_ishr hx hb dJ0_length_9 ?_
  refine lv_topi (fun z_9 e_9 => ?_)
  obtain rfl : z_9 = 7 := e_9.trans (by decide)
  refine W.widen (k := 0) (n := 0) (Nat.le_of_ble_eq_true rfl) (Nat.le_of_ble_eq_true rfl) ?_
  exact W.iret (v := 7) hx hb hr (fun t ht hW => ⟨⟨7, (), rfl, rfl, trivial⟩, hS.F ht⟩) hS.2.2 dJ0_length_10
set_option maxHeartbeats 4000000 in
set_option maxRecDepth 100000 in
theorem n_Layout (l : Launch) (D : va_G) (cI cZ cC cJ : ClassId) (s0 : State) (qs qv : Nat) (fb : Nat → Value) (hSt : StrF s0 qs qv fb) (hNw : NwF s0) (h : Nat) (sz : Nat) : Met l yX4_init wsX4_init ({ frames := 2, cells := 25, slots := 408, locals := 40 }) (va_Pc [.ref h] (fun U => U.heap.size = sz ∧ va_P D vwCl [(h, .inr (4, [.int 0, .null, .null, .null, .null, .null, .null, .null, .null, .null, .null, .null, .null]))] U.heap ∧ va_K D vwCl [(cI, .int), (cZ, .boolean), (cC, .char), (cJ, .long)] U ∧ va_D (fun q => s0.heap.size ≤ q) [(h, .inr (4, [.int 0, .null, .null, .null, .null, .null, .null, .null, .null, .null, .null, .null, .null]))] ∧ Old s0 U)) (va_Qv (fun (_ : Unit) => True) (fun _ t => ∃ (ho : Nat) (lru : Nat) (rY : Nat → Nat) (rL : Nat → Nat) (fh : Nat → Int32), (∀ j, j < 26 → fh j = -1) ∧ va_P D vwCl [(h, .inr (4, [.int 0, .ref (rY 0), .ref (rY 1), .ref (rY 2), .ref (rY 3), .ref (rY 4), .ref (rY 5), .ref ho, .ref (rY 6), .ref (rY 7), .ref (rY 8), .ref (rY 9), .ref lru])), (ho, .inl (cI, 26, .inl fh)), (lru, .inr (9, [.int 0, .ref (rL 0), .ref (rL 1), .ref (rL 2), .ref (rL 3), .ref (rL 4), .ref (rL 5)]))] t.heap ∧ va_D (va_A [(h, .inr (4, [.int 0, .null, .null, .null, .null, .null, .null, .null, .null, .null, .null, .null, .null]))] sz) [(h, .inr (4, [.int 0, .ref (rY 0), .ref (rY 1), .ref (rY 2), .ref (rY 3), .ref (rY 4), .ref (rY 5), .ref ho, .ref (rY 6), .ref (rY 7), .ref (rY 8), .ref (rY 9), .ref lru])), (ho, .inl (cI, 26, .inl fh)), (lru, .inr (9, [.int 0, .ref (rL 0), .ref (rL 1), .ref (rL 2), .ref (rL 3), .ref (rL 4), .ref (rL 5)]))]) (va_A [(h, .inr (4, [.int 0, .null, .null, .null, .null, .null, .null, .null, .null, .null, .null, .null, .null]))] sz)) 25 408 (va_A [(h, .inr (4, [.int 0, .null, .null, .null, .null, .null, .null, .null, .null, .null, .null, .null, .null]))] sz) := by
  refine Met.ofW (cc := cX4_init) (maxL := 1) (ret := none) (by decide) rfl ?_
  intro p e s m args below meth c s₁ B hml hv
  obtain ⟨rfl, hsz, hP, hK, hD0, hO⟩ := hv
  have hx := B.exec
  have hb := B.bytes
  have hr := B.returns
  have hgt := fun w (h : w ∈ GT) => atoms_spec (ws := wsX4_init) B.pre w (List.mem_cons_of_mem _ h)
  have hown : s.vm.findClass RX4 = some m.cls := findClass_of_methodNamed B.named
  have hlocks := B.notSynchronized
  have hin : meth.name = "<init>" := (name_of_methodNamed B.named B.method).1
  subst hsz
  have hD := hD0.self (sz := s.heap.size)
  generalize hAe : va_A [(h, .inr (4, [.int 0, .null, .null, .null, .null, .null, .null, .null, .null, .null, .null, .null, .null]))] s.heap.size = A at hD ⊢
  have hA : ∀ q : Nat, s.heap.size ≤ q → A q := fun q h => by rw [← hAe]; exact Or.inr h
  have hAO : ∀ q : Nat, A q → s0.heap.size ≤ q := fun q h => by rw [← hAe] at h; exact old_in hD0 hO h
  have hS : va_S A s.heap s.heap [] := va_S.rf
  have hP : va_P D vwCl [(h, .inr (4, [.int 0, .null, .null, .null, .null, .null, .null, .null, .null, .null, .null, .null, .null]))] s.heap := hP
  have hl := lv_entry ([.ref h]) (n := 1) (Nat.le_of_ble_eq_true rfl)
  rw [lg_entry_eq]
  generalize (lg_sl ([.ref h]) ++ List.replicate (1 - (lg_sl ([.ref h])).length) Slot.unset).toArray = ls at hl ⊢
  have hl : lv_has ls 1 [(0, .ref h)] := hl
  refine lv_aload_n hx hb dX4_init_0 rfl (lv_at hl 0 rfl) ?_
  refine W.objInit hx hb hown (hgt _ wd_0_225) (hgt _ wd_0_35) (hgt _ wd_0_36) rfl (by rw [hml]; exact hl.1) rfl dX4_init_1 (Nat.le_of_ble_eq_true rfl) (Nat.le_of_ble_eq_true rfl) ?_
  refine W.eq (g2 := F0 m 4 ls []) rfl ?_
  refine lv_aload_n hx hb dX4_init_4 rfl (lv_at hl 0 rfl) ?_
  refine lv_bipush (v := 16) hx hb dX4_init_5 (by decide) ?_
  refine nw_a (atype := .int) (ty := .int) (t0 := 0) (a0 := (16, .inl (fun _ => 0))) hx hb (hgt _ wd_0_92) rfl hK rfl hP hD hS hA (fun _ => rfl) (by decide) rfl (by decide) (Nat.le_of_ble_eq_true rfl) (Nat.le_of_ble_eq_true rfl) dX4_init_7 (fun q1 H hP hD hS => ?_)
  have hP : va_P D vwCl [(h, .inr (4, [.int 0, .null, .null, .null, .null, .null, .null, .null, .null, .null, .null, .null, .null])), (q1, .inl (cI, 16, .inl (fun _ => 0)))] H := hP
  have hD : va_D A [(h, .inr (4, [.int 0, .null, .null, .null, .null, .null, .null, .null, .null, .null, .null, .null, .null])), (q1, .inl (cI, 16, .inl (fun _ => 0)))] := hD
  refine va_putF (D := D) (ci := 4) (v := .ref q1) (ty := .array .int) (C := RX4) (T := TX4) (N := 13) hx hb hgt iwX4 tyX4 tyX4_ok nmX4 hown hK hP hD hS 0 rfl rfl 1 (Nat.le_of_ble_eq_true rfl) (hgt _ wd_1_8) (fun _ h9 => h9) rfl hin rfl (by decide +kernel) rfl rfl (Nat.le_of_ble_eq_true rfl) dX4_init_9 (fun H locs hP hD hS => ?_)
  have hP : va_P D vwCl [(h, .inr (4, [.int 0, .ref q1, .null, .null, .null, .null, .null, .null, .null, .null, .null, .null, .null])), (q1, .inl (cI, 16, .inl (fun _ => 0)))] H := hP
  have hD : va_D A [(h, .inr (4, [.int 0, .ref q1, .null, .null, .null, .null, .null, .null, .null, .null, .null, .null, .null])), (q1, .inl (cI, 16, .inl (fun _ => 0)))] := hD
  have hP := hP.sub (ws' := [(h, .inr (4, [.int 0, .ref q1, .null, .null, .null, .null, .null, .null, .null, .null, .null, .null, .null]))]) [0] rfl
  have hD := hD.sub (ws' := [(h, .inr (4, [.int 0, .ref q1, .null, .null, .null, .null, .null, .null, .null, .null, .null, .null, .null]))]) [0] (by decide) rfl
  refine lv_aload_n hx hb dX4_init_12 rfl (lv_at hl 0 rfl) ?_
  refine lv_bipush (v := 16) hx hb dX4_init_13 (by decide) ?_
  refine nw_a (atype := .int) (ty := .int) (t0 := 0) (a0 := (16, .inl (fun _ => 0))) hx hb (hgt _ wd_0_92) rfl hK rfl hP hD hS hA (fun _ => rfl) (by decide) rfl (by decide) (Nat.le_of_ble_eq_true rfl) (Nat.le_of_ble_eq_true rfl) dX4_init_15 (fun q2 H hP hD hS => ?_)
  have hP : va_P D vwCl [(h, .inr (4, [.int 0, .ref q1, .null, .null, .null, .null, .null, .null, .null, .null, .null, .null, .null])), (q2, .inl (cI, 16, .inl (fun _ => 0)))] H := hP
  have hD : va_D A [(h, .inr (4, [.int 0, .ref q1, .null, .null, .null, .null, .null, .null, .null, .null, .null, .null, .null])), (q2, .inl (cI, 16, .inl (fun _ => 0)))] := hD
  refine va_putF (D := D) (ci := 4) (v := .ref q2) (ty := .array .int) (C := RX4) (T := TX4) (N := 13) hx hb hgt iwX4 tyX4 tyX4_ok nmX4 hown hK hP hD hS 0 rfl rfl 2 (Nat.le_of_ble_eq_true rfl) (hgt _ wd_1_10) (fun _ h9 => h9) rfl hin rfl (by decide +kernel) rfl rfl (Nat.le_of_ble_eq_true rfl) dX4_init_17 (fun H locs hP hD hS => ?_)
  have hP : va_P D vwCl [(h, .inr (4, [.int 0, .ref q1, .ref q2, .null, .null, .null, .null, .null, .null, .null, .null, .null, .null])), (q2, .inl (cI, 16, .inl (fun _ => 0)))] H := hP
  have hD : va_D A [(h, .inr (4, [.int 0, .ref q1, .ref q2, .null, .null, .null, .null, .null, .null, .null, .null, .null, .null])), (q2, .inl (cI, 16, .inl (fun _ => 0)))] := hD
  have hP := hP.sub (ws' := [(h, .inr (4, [.int 0, .ref q1, .ref q2, .null, .null, .null, .null, .null, .null, .null, .null, .null, .null]))]) [0] rfl
  have hD := hD.sub (ws' := [(h, .inr (4, [.int 0, .ref q1, .ref q2, .null, .null, .null, .null, .null, .null, .null, .null, .null, .null]))]) [0] (by decide) rfl
  refine lv_aload_n hx hb dX4_init_20 rfl (lv_at hl 0 rfl) ?_
  refine lv_bipush (v := 16) hx hb dX4_init_21 (by decide) ?_
  refine nw_a (atype := .int) (ty := .int) (t0 := 0) (a0 := (16, .inl (fun _ => 0))) hx hb (hgt _ wd_0_92) rfl hK rfl hP hD hS hA (fun _ => rfl) (by decide) rfl (by decide) (Nat.le_of_ble_eq_true rfl) (Nat.le_of_ble_eq_true rfl) dX4_init_23 (fun q3 H hP hD hS => ?_)
  have hP : va_P D vwCl [(h, .inr (4, [.int 0, .ref q1, .ref q2, .null, .null, .null, .null, .null, .null, .null, .null, .null, .null])), (q3, .inl (cI, 16, .inl (fun _ => 0)))] H := hP
  have hD : va_D A [(h, .inr (4, [.int 0, .ref q1, .ref q2, .null, .null, .null, .null, .null, .null, .null, .null, .null, .null])), (q3, .inl (cI, 16, .inl (fun _ => 0)))] := hD
  refine va_putF (D := D) (ci := 4) (v := .ref q3) (ty := .array .int) (C := RX4) (T := TX4) (N := 13) hx hb hgt iwX4 tyX4 tyX4_ok nmX4 hown hK hP hD hS 0 rfl rfl 3 (Nat.le_of_ble_eq_true rfl) (hgt _ wd_1_13) (fun _ h9 => h9) rfl hin rfl (by decide +kernel) rfl rfl (Nat.le_of_ble_eq_true rfl) dX4_init_25 (fun H locs hP hD hS => ?_)
  have hP : va_P D vwCl [(h, .inr (4, [.int 0, .ref q1, .ref q2, .ref q3, .null, .null, .null, .null, .null, .null, .null, .null, .null])), (q3, .inl (cI, 16, .inl (fun _ => 0)))] H := hP
  have hD : va_D A [(h, .inr (4, [.int 0, .ref q1, .ref q2, .ref q3, .null, .null, .null, .null, .null, .null, .null, .null, .null])), (q3, .inl (cI, 16, .inl (fun _ => 0)))] := hD
  have hP := hP.sub (ws' := [(h, .inr (4, [.int 0, .ref q1, .ref q2, .ref q3, .null, .null, .null, .null, .null, .null, .null, .null, .null]))]) [0] rfl
  have hD := hD.sub (ws' := [(h, .inr (4, [.int 0, .ref q1, .ref q2, .ref q3, .null, .null, .null, .null, .null, .null, .null, .null, .null]))]) [0] (by decide) rfl
  refine lv_aload_n hx hb dX4_init_28 rfl (lv_at hl 0 rfl) ?_
  refine lv_bipush (v := 16) hx hb dX4_init_29 (by decide) ?_
  refine nw_a (atype := .int) (ty := .int) (t0 := 0) (a0 := (16, .inl (fun _ => 0))) hx hb (hgt _ wd_0_92) rfl hK rfl hP hD hS hA (fun _ => rfl) (by decide) rfl (by decide) (Nat.le_of_ble_eq_true rfl) (Nat.le_of_ble_eq_true rfl) dX4_init_31 (fun q4 H hP hD hS => ?_)
  have hP : va_P D vwCl [(h, .inr (4, [.int 0, .ref q1, .ref q2, .ref q3, .null, .null, .null, .null, .null, .null, .null, .null, .null])), (q4, .inl (cI, 16, .inl (fun _ => 0)))] H := hP
  have hD : va_D A [(h, .inr (4, [.int 0, .ref q1, .ref q2, .ref q3, .null, .null, .null, .null, .null, .null, .null, .null, .null])), (q4, .inl (cI, 16, .inl (fun _ => 0)))] := hD
  refine va_putF (D := D) (ci := 4) (v := .ref q4) (ty := .array .int) (C := RX4) (T := TX4) (N := 13) hx hb hgt iwX4 tyX4 tyX4_ok nmX4 hown hK hP hD hS 0 rfl rfl 4 (Nat.le_of_ble_eq_true rfl) (hgt _ wd_1_16) (fun _ h9 => h9) rfl hin rfl (by decide +kernel) rfl rfl (Nat.le_of_ble_eq_true rfl) dX4_init_33 (fun H locs hP hD hS => ?_)
  have hP : va_P D vwCl [(h, .inr (4, [.int 0, .ref q1, .ref q2, .ref q3, .ref q4, .null, .null, .null, .null, .null, .null, .null, .null])), (q4, .inl (cI, 16, .inl (fun _ => 0)))] H := hP
  have hD : va_D A [(h, .inr (4, [.int 0, .ref q1, .ref q2, .ref q3, .ref q4, .null, .null, .null, .null, .null, .null, .null, .null])), (q4, .inl (cI, 16, .inl (fun _ => 0)))] := hD
  have hP := hP.sub (ws' := [(h, .inr (4, [.int 0, .ref q1, .ref q2, .ref q3, .ref q4, .null, .null, .null, .null, .null, .null, .null, .null]))]) [0] rfl
  have hD := hD.sub (ws' := [(h, .inr (4, [.int 0, .ref q1, .ref q2, .ref q3, .ref q4, .null, .null, .null, .null, .null, .null, .null, .null]))]) [0] (by decide) rfl
  refine lv_aload_n hx hb dX4_init_36 rfl (lv_at hl 0 rfl) ?_
  refine lv_bipush (v := 16) hx hb dX4_init_37 (by decide) ?_
  refine nw_a (atype := .int) (ty := .int) (t0 := 0) (a0 := (16, .inl (fun _ => 0))) hx hb (hgt _ wd_0_92) rfl hK rfl hP hD hS hA (fun _ => rfl) (by decide) rfl (by decide) (Nat.le_of_ble_eq_true rfl) (Nat.le_of_ble_eq_true rfl) dX4_init_39 (fun q5 H hP hD hS => ?_)
  have hP : va_P D vwCl [(h, .inr (4, [.int 0, .ref q1, .ref q2, .ref q3, .ref q4, .null, .null, .null, .null, .null, .null, .null, .null])), (q5, .inl (cI, 16, .inl (fun _ => 0)))] H := hP
  have hD : va_D A [(h, .inr (4, [.int 0, .ref q1, .ref q2, .ref q3, .ref q4, .null, .null, .null, .null, .null, .null, .null, .null])), (q5, .inl (cI, 16, .inl (fun _ => 0)))] := hD
  refine va_putF (D := D) (ci := 4) (v := .ref q5) (ty := .array .int) (C := RX4) (T := TX4) (N := 13) hx hb hgt iwX4 tyX4 tyX4_ok nmX4 hown hK hP hD hS 0 rfl rfl 5 (Nat.le_of_ble_eq_true rfl) (hgt _ wd_1_19) (fun _ h9 => h9) rfl hin rfl (by decide +kernel) rfl rfl (Nat.le_of_ble_eq_true rfl) dX4_init_41 (fun H locs hP hD hS => ?_)
  have hP : va_P D vwCl [(h, .inr (4, [.int 0, .ref q1, .ref q2, .ref q3, .ref q4, .ref q5, .null, .null, .null, .null, .null, .null, .null])), (q5, .inl (cI, 16, .inl (fun _ => 0)))] H := hP
  have hD : va_D A [(h, .inr (4, [.int 0, .ref q1, .ref q2, .ref q3, .ref q4, .ref q5, .null, .null, .null, .null, .null, .null, .null])), (q5, .inl (cI, 16, .inl (fun _ => 0)))] := hD
  have hP := hP.sub (ws' := [(h, .inr (4, [.int 0, .ref q1, .ref q2, .ref q3, .ref q4, .ref q5, .null, .null, .null, .null, .null, .null, .null]))]) [0] rfl
  have hD := hD.sub (ws' := [(h, .inr (4, [.int 0, .ref q1, .ref q2, .ref q3, .ref q4, .ref q5, .null, .null, .null, .null, .null, .null, .null]))]) [0] (by decide) rfl
  refine lv_aload_n hx hb dX4_init_44 rfl (lv_at hl 0 rfl) ?_
  refine va_ldcS hx hb hown (hSt.1.warm hO.1) dX4_init_45 ?_
  have hFc := va_free (wc := []) hD hS hA [] rfl
  refine va_calli (va_runV (As := []) (rest := [.ref h]) ⟨hx, hb, hml, hown, hgt⟩ (s_length l D cI cZ cC cJ s0 qs qv fb hSt hNw H.size) (cwV 0 hgt (gV wd_0_227 wd_0_228 wd_0_229 wd_0_7 wd_0_230) rfl rfl rfl (by decide +kernel) ⟨Nat.le_of_ble_eq_true rfl, Nat.le_of_ble_eq_true rfl⟩) ⟨fun a U g mk q => by obtain ⟨q0, q1, qP, qK, qD, qO⟩ := q; exact ⟨q0, q1, qP, va_K.moved (u := U) (U := U.calling g mk a) (Vm.Alike.refl U.vm) qK, qD, qO⟩, hSt.recv hO hAO hS, fun U hU hW => ⟨rfl, by rw [hU], fun k q h => by simp at h, va_K.moved hW.alike hK, ⟨fun i j p q h => by simp at h, fun k q h => by simp at h⟩, Old.step hO hAO hS hU hW⟩⟩ rfl rfl hl.1 rfl (lv_room (Nat.le_of_ble_eq_true rfl)) dX4_init_47 ⟨Nat.le_of_ble_eq_true rfl, Nat.le_of_ble_eq_true rfl⟩) hS (fun q _ h => hFc q h) hFc (fun r u t H1 locs ht hvm hw hB hz1 hk1 hS => ?_)
  have hP1 : va_P D vwCl [] H1 := fun k q h => by simp at h
  have hD1 : va_D (va_A [] H.size) [] := ⟨fun i j p q h => by simp at h, fun k q h => by simp at h⟩
  obtain ⟨hP, hD⟩ := va_join (wr := [(h, .inr (4, [.int 0, .ref q1, .ref q2, .ref q3, .ref q4, .ref q5, .null, .null, .null, .null, .null, .null, .null]))]) (w1 := []) hP hD [] [0] rfl rfl (by decide) (by decide) hk1 hFc hP1 hD1
  generalize H1 = H at hP hS ⊢
  have hP : va_P D vwCl [(h, .inr (4, [.int 0, .ref q1, .ref q2, .ref q3, .ref q4, .ref q5, .null, .null, .null, .null, .null, .null, .null]))] H := hP
  have hD : va_D A [(h, .inr (4, [.int 0, .ref q1, .ref q2, .ref q3, .ref q4, .ref q5, .null, .null, .null, .null, .null, .null, .null]))] := hD
  obtain rfl : r = 7 := hw
  refine lv_bipush (v := 16) hx hb dX4_init_50 (by decide) ?_
  refine nw_m hx hb hown (hgt _ wd_0_237) (hNw.2.2.2.2.at hO.1.alike) hP hD hS (Nat.le_of_ble_eq_true rfl) (Nat.le_of_ble_eq_true rfl) dX4_init_52 (fun q6 H hP hD hS => ?_)
  have hP : va_P D vwCl [(h, .inr (4, [.int 0, .ref q1, .ref q2, .ref q3, .ref q4, .ref q5, .null, .null, .null, .null, .null, .null, .null]))] H := hP
  have hD : va_D A [(h, .inr (4, [.int 0, .ref q1, .ref q2, .ref q3, .ref q4, .ref q5, .null, .null, .null, .null, .null, .null, .null]))] := hD
  refine va_putF (D := D) (ci := 4) (v := .ref q6) (ty := .array (.array .int)) (C := RX4) (T := TX4) (N := 13) hx hb hgt iwX4 tyX4 tyX4_ok nmX4 hown hK hP hD hS 0 rfl rfl 6 (Nat.le_of_ble_eq_true rfl) (hgt _ wd_1_23) (fun _ h9 => h9) rfl hin rfl (by decide +kernel) rfl rfl (Nat.le_of_ble_eq_true rfl) dX4_init_56 (fun H locs hP hD hS => ?_)
  have hP : va_P D vwCl [(h, .inr (4, [.int 0, .ref q1, .ref q2, .ref q3, .ref q4, .ref q5, .ref q6, .null, .null, .null, .null, .null, .null]))] H := hP
  have hD : va_D A [(h, .inr (4, [.int 0, .ref q1, .ref q2, .ref q3, .ref q4, .ref q5, .ref q6, .null, .null, .null, .null, .null, .null]))] := hD
  refine lv_aload_n hx hb dX4_init_59 rfl (lv_at hl 0 rfl) ?_
  refine lv_bipush (v := 26) hx hb dX4_init_60 (by decide) ?_
  refine nw_a (atype := .int) (ty := .int) (t0 := 0) (a0 := (26, .inl (fun _ => 0))) hx hb (hgt _ wd_0_92) rfl hK rfl hP hD hS hA (fun _ => rfl) (by decide) rfl (by decide) (Nat.le_of_ble_eq_true rfl) (Nat.le_of_ble_eq_true rfl) dX4_init_62 (fun q7 H hP hD hS => ?_)
  have hP : va_P D vwCl [(h, .inr (4, [.int 0, .ref q1, .ref q2, .ref q3, .ref q4, .ref q5, .ref q6, .null, .null, .null, .null, .null, .null])), (q7, .inl (cI, 26, .inl (fun _ => 0)))] H := hP
  have hD : va_D A [(h, .inr (4, [.int 0, .ref q1, .ref q2, .ref q3, .ref q4, .ref q5, .ref q6, .null, .null, .null, .null, .null, .null])), (q7, .inl (cI, 26, .inl (fun _ => 0)))] := hD
  refine va_putF (D := D) (ci := 4) (v := .ref q7) (ty := .array .int) (C := RX4) (T := TX4) (N := 13) hx hb hgt iwX4 tyX4 tyX4_ok nmX4 hown hK hP hD hS 0 rfl rfl 7 (Nat.le_of_ble_eq_true rfl) (hgt _ wd_1_25) (fun _ h9 => h9) rfl hin rfl (by decide +kernel) rfl rfl (Nat.le_of_ble_eq_true rfl) dX4_init_64 (fun H locs hP hD hS => ?_)
  have hP : va_P D vwCl [(h, .inr (4, [.int 0, .ref q1, .ref q2, .ref q3, .ref q4, .ref q5, .ref q6, .ref q7, .null, .null, .null, .null, .null])), (q7, .inl (cI, 26, .inl (fun _ => 0)))] H := hP
  have hD : va_D A [(h, .inr (4, [.int 0, .ref q1, .ref q2, .ref q3, .ref q4, .ref q5, .ref q6, .ref q7, .null, .null, .null, .null, .null])), (q7, .inl (cI, 26, .inl (fun _ => 0)))] := hD
  refine lv_aload_n hx hb dX4_init_67 rfl (lv_at hl 0 rfl) ?_
  refine lv_bipush (v := 26) hx hb dX4_init_68 (by decide) ?_
  refine nw_a (atype := .int) (ty := .int) (t0 := 0) (a0 := (26, .inl (fun _ => 0))) hx hb (hgt _ wd_0_92) rfl hK rfl hP hD hS hA (fun _ => rfl) (by decide) rfl (by decide) (Nat.le_of_ble_eq_true rfl) (Nat.le_of_ble_eq_true rfl) dX4_init_70 (fun q8 H hP hD hS => ?_)
  have hP : va_P D vwCl [(h, .inr (4, [.int 0, .ref q1, .ref q2, .ref q3, .ref q4, .ref q5, .ref q6, .ref q7, .null, .null, .null, .null, .null])), (q7, .inl (cI, 26, .inl (fun _ => 0))), (q8, .inl (cI, 26, .inl (fun _ => 0)))] H := hP
  have hD : va_D A [(h, .inr (4, [.int 0, .ref q1, .ref q2, .ref q3, .ref q4, .ref q5, .ref q6, .ref q7, .null, .null, .null, .null, .null])), (q7, .inl (cI, 26, .inl (fun _ => 0))), (q8, .inl (cI, 26, .inl (fun _ => 0)))] := hD
  refine va_putF (D := D) (ci := 4) (v := .ref q8) (ty := .array .int) (C := RX4) (T := TX4) (N := 13) hx hb hgt iwX4 tyX4 tyX4_ok nmX4 hown hK hP hD hS 0 rfl rfl 8 (Nat.le_of_ble_eq_true rfl) (hgt _ wd_1_30) (fun _ h9 => h9) rfl hin rfl (by decide +kernel) rfl rfl (Nat.le_of_ble_eq_true rfl) dX4_init_72 (fun H locs hP hD hS => ?_)
  have hP : va_P D vwCl [(h, .inr (4, [.int 0, .ref q1, .ref q2, .ref q3, .ref q4, .ref q5, .ref q6, .ref q7, .ref q8, .null, .null, .null, .null])), (q7, .inl (cI, 26, .inl (fun _ => 0))), (q8, .inl (cI, 26, .inl (fun _ => 0)))] H := hP
  have hD : va_D A [(h, .inr (4, [.int 0, .ref q1, .ref q2, .ref q3, .ref q4, .ref q5, .ref q6, .ref q7, .ref q8, .null, .null, .null, .null])), (q7, .inl (cI, 26, .inl (fun _ => 0))), (q8, .inl (cI, 26, .inl (fun _ => 0)))] := hD
  have hP := hP.sub (ws' := [(h, .inr (4, [.int 0, .ref q1, .ref q2, .ref q3, .ref q4, .ref q5, .ref q6, .ref q7, .ref q8, .null, .null, .null, .null])), (q7, .inl (cI, 26, .inl (fun _ => 0)))]) [0, 1] rfl
  have hD := hD.sub (ws' := [(h, .inr (4, [.int 0, .ref q1, .ref q2, .ref q3, .ref q4, .ref q5, .ref q6, .ref q7, .ref q8, .null, .null, .null, .null])), (q7, .inl (cI, 26, .inl (fun _ => 0)))]) [0, 1] (by decide) rfl
  refine lv_aload_n hx hb dX4_init_75 rfl (lv_at hl 0 rfl) ?_
  refine lv_bipush (v := 26) hx hb dX4_init_76 (by decide) ?_
  refine nw_a (atype := .int) (ty := .int) (t0 := 0) (a0 := (26, .inl (fun _ => 0))) hx hb (hgt _ wd_0_92) rfl hK rfl hP hD hS hA (fun _ => rfl) (by decide) rfl (by decide) (Nat.le_of_ble_eq_true rfl) (Nat.le_of_ble_eq_true rfl) dX4_init_78 (fun q9 H hP hD hS => ?_)
  have hP : va_P D vwCl [(h, .inr (4, [.int 0, .ref q1, .ref q2, .ref q3, .ref q4, .ref q5, .ref q6, .ref q7, .ref q8, .null, .null, .null, .null])), (q7, .inl (cI, 26, .inl (fun _ => 0))), (q9, .inl (cI, 26, .inl (fun _ => 0)))] H := hP
  have hD : va_D A [(h, .inr (4, [.int 0, .ref q1, .ref q2, .ref q3, .ref q4, .ref q5, .ref q6, .ref q7, .ref q8, .null, .null, .null, .null])), (q7, .inl (cI, 26, .inl (fun _ => 0))), (q9, .inl (cI, 26, .inl (fun _ => 0)))] := hD
  refine va_putF (D := D) (ci := 4) (v := .ref q9) (ty := .array .int) (C := RX4) (T := TX4) (N := 13) hx hb hgt iwX4 tyX4 tyX4_ok nmX4 hown hK hP hD hS 0 rfl rfl 9 (Nat.le_of_ble_eq_true rfl) (hgt _ wd_1_34) (fun _ h9 => h9) rfl hin rfl (by decide +kernel) rfl rfl (Nat.le_of_ble_eq_true rfl) dX4_init_80 (fun H locs hP hD hS => ?_)
  have hP : va_P D vwCl [(h, .inr (4, [.int 0, .ref q1, .ref q2, .ref q3, .ref q4, .ref q5, .ref q6, .ref q7, .ref q8, .ref q9, .null, .null, .null])), (q7, .inl (cI, 26, .inl (fun _ => 0))), (q9, .inl (cI, 26, .inl (fun _ => 0)))] H := hP
  have hD : va_D A [(h, .inr (4, [.int 0, .ref q1, .ref q2, .ref q3, .ref q4, .ref q5, .ref q6, .ref q7, .ref q8, .ref q9, .null, .null, .null])), (q7, .inl (cI, 26, .inl (fun _ => 0))), (q9, .inl (cI, 26, .inl (fun _ => 0)))] := hD
  have hP := hP.sub (ws' := [(h, .inr (4, [.int 0, .ref q1, .ref q2, .ref q3, .ref q4, .ref q5, .ref q6, .ref q7, .ref q8, .ref q9, .null, .null, .null])), (q7, .inl (cI, 26, .inl (fun _ => 0)))]) [0, 1] rfl
  have hD := hD.sub (ws' := [(h, .inr (4, [.int 0, .ref q1, .ref q2, .ref q3, .ref q4, .ref q5, .ref q6, .ref q7, .ref q8, .ref q9, .null, .null, .null])), (q7, .inl (cI, 26, .inl (fun _ => 0)))]) [0, 1] (by decide) rfl
  refine lv_aload_n hx hb dX4_init_83 rfl (lv_at hl 0 rfl) ?_
  refine lv_bipush (v := 26) hx hb dX4_init_84 (by decide) ?_
  refine nw_a (atype := .int) (ty := .int) (t0 := 0) (a0 := (26, .inl (fun _ => 0))) hx hb (hgt _ wd_0_92) rfl hK rfl hP hD hS hA (fun _ => rfl) (by decide) rfl (by decide) (Nat.le_of_ble_eq_true rfl) (Nat.le_of_ble_eq_true rfl) dX4_init_86 (fun q10 H hP hD hS => ?_)
  have hP : va_P D vwCl [(h, .inr (4, [.int 0, .ref q1, .ref q2, .ref q3, .ref q4, .ref q5, .ref q6, .ref q7, .ref q8, .ref q9, .null, .null, .null])), (q7, .inl (cI, 26, .inl (fun _ => 0))), (q10, .inl (cI, 26, .inl (fun _ => 0)))] H := hP
  have hD : va_D A [(h, .inr (4, [.int 0, .ref q1, .ref q2, .ref q3, .ref q4, .ref q5, .ref q6, .ref q7, .ref q8, .ref q9, .null, .null, .null])), (q7, .inl (cI, 26, .inl (fun _ => 0))), (q10, .inl (cI, 26, .inl (fun _ => 0)))] := hD
  refine va_putF (D := D) (ci := 4) (v := .ref q10) (ty := .array .int) (C := RX4) (T := TX4) (N := 13) hx hb hgt iwX4 tyX4 tyX4_ok nmX4 hown hK hP hD hS 0 rfl rfl 10 (Nat.le_of_ble_eq_true rfl) (hgt _ wd_1_39) (fun _ h9 => h9) rfl hin rfl (by decide +kernel) rfl rfl (Nat.le_of_ble_eq_true rfl) dX4_init_88 (fun H locs hP hD hS => ?_)
  have hP : va_P D vwCl [(h, .inr (4, [.int 0, .ref q1, .ref q2, .ref q3, .ref q4, .ref q5, .ref q6, .ref q7, .ref q8, .ref q9, .ref q10, .null, .null])), (q7, .inl (cI, 26, .inl (fun _ => 0))), (q10, .inl (cI, 26, .inl (fun _ => 0)))] H := hP
  have hD : va_D A [(h, .inr (4, [.int 0, .ref q1, .ref q2, .ref q3, .ref q4, .ref q5, .ref q6, .ref q7, .ref q8, .ref q9, .ref q10, .null, .null])), (q7, .inl (cI, 26, .inl (fun _ => 0))), (q10, .inl (cI, 26, .inl (fun _ => 0)))] := hD
  have hP := hP.sub (ws' := [(h, .inr (4, [.int 0, .ref q1, .ref q2, .ref q3, .ref q4, .ref q5, .ref q6, .ref q7, .ref q8, .ref q9, .ref q10, .null, .null])), (q7, .inl (cI, 26, .inl (fun _ => 0)))]) [0, 1] rfl
  have hD := hD.sub (ws' := [(h, .inr (4, [.int 0, .ref q1, .ref q2, .ref q3, .ref q4, .ref q5, .ref q6, .ref q7, .ref q8, .ref q9, .ref q10, .null, .null])), (q7, .inl (cI, 26, .inl (fun _ => 0)))]) [0, 1] (by decide) rfl
  refine lv_aload_n hx hb dX4_init_91 rfl (lv_at hl 0 rfl) ?_
  refine lv_bipush (v := 26) hx hb dX4_init_92 (by decide) ?_
  refine nw_a (atype := .int) (ty := .int) (t0 := 0) (a0 := (26, .inl (fun _ => 0))) hx hb (hgt _ wd_0_92) rfl hK rfl hP hD hS hA (fun _ => rfl) (by decide) rfl (by decide) (Nat.le_of_ble_eq_true rfl) (Nat.le_of_ble_eq_true rfl) dX4_init_94 (fun q11 H hP hD hS => ?_)
  have hP : va_P D vwCl [(h, .inr (4, [.int 0, .ref q1, .ref q2, .ref q3, .ref q4, .ref q5, .ref q6, .ref q7, .ref q8, .ref q9, .ref q10, .null, .null])), (q7, .inl (cI, 26, .inl (fun _ => 0))), (q11, .inl (cI, 26, .inl (fun _ => 0)))] H := hP
  have hD : va_D A [(h, .inr (4, [.int 0, .ref q1, .ref q2, .ref q3, .ref q4, .ref q5, .ref q6, .ref q7, .ref q8, .ref q9, .ref q10, .null, .null])), (q7, .inl (cI, 26, .inl (fun _ => 0))), (q11, .inl (cI, 26, .inl (fun _ => 0)))] := hD
  refine va_putF (D := D) (ci := 4) (v := .ref q11) (ty := .array .int) (C := RX4) (T := TX4) (N := 13) hx hb hgt iwX4 tyX4 tyX4_ok nmX4 hown hK hP hD hS 0 rfl rfl 11 (Nat.le_of_ble_eq_true rfl) (hgt _ wd_1_41) (fun _ h9 => h9) rfl hin rfl (by decide +kernel) rfl rfl (Nat.le_of_ble_eq_true rfl) dX4_init_96 (fun H locs hP hD hS => ?_)
  have hP : va_P D vwCl [(h, .inr (4, [.int 0, .ref q1, .ref q2, .ref q3, .ref q4, .ref q5, .ref q6, .ref q7, .ref q8, .ref q9, .ref q10, .ref q11, .null])), (q7, .inl (cI, 26, .inl (fun _ => 0))), (q11, .inl (cI, 26, .inl (fun _ => 0)))] H := hP
  have hD : va_D A [(h, .inr (4, [.int 0, .ref q1, .ref q2, .ref q3, .ref q4, .ref q5, .ref q6, .ref q7, .ref q8, .ref q9, .ref q10, .ref q11, .null])), (q7, .inl (cI, 26, .inl (fun _ => 0))), (q11, .inl (cI, 26, .inl (fun _ => 0)))] := hD
  have hP := hP.sub (ws' := [(h, .inr (4, [.int 0, .ref q1, .ref q2, .ref q3, .ref q4, .ref q5, .ref q6, .ref q7, .ref q8, .ref q9, .ref q10, .ref q11, .null])), (q7, .inl (cI, 26, .inl (fun _ => 0)))]) [0, 1] rfl
  have hD := hD.sub (ws' := [(h, .inr (4, [.int 0, .ref q1, .ref q2, .ref q3, .ref q4, .ref q5, .ref q6, .ref q7, .ref q8, .ref q9, .ref q10, .ref q11, .null])), (q7, .inl (cI, 26, .inl (fun _ => 0)))]) [0, 1] (by decide) rfl
  refine lv_aload_n hx hb dX4_init_99 rfl (lv_at hl 0 rfl) ?_
  refine va_new (D := D) (ci := 9) (fs := [.int 0, .null, .null, .null, .null, .null, .null]) (C := RX9) (T := TX9) (N := 7) hx hb hgt iwX9 tyX9 tyX9_ok hown (hgt _ wd_0_239) (hgt _ wd_0_44) (hgt _ wd_0_3) hK hP hD hS hA rfl (by decide +kernel) (Nat.le_of_ble_eq_true rfl) (Nat.le_of_ble_eq_true rfl) dX4_init_100 (fun q12 H hP hD hS => ?_)
  have hP : va_P D vwCl [(h, .inr (4, [.int 0, .ref q1, .ref q2, .ref q3, .ref q4, .ref q5, .ref q6, .ref q7, .ref q8, .ref q9, .ref q10, .ref q11, .null])), (q7, .inl (cI, 26, .inl (fun _ => 0))), (q12, .inr (9, [.int 0, .null, .null, .null, .null, .null, .null]))] H := hP
  have hD : va_D A [(h, .inr (4, [.int 0, .ref q1, .ref q2, .ref q3, .ref q4, .ref q5, .ref q6, .ref q7, .ref q8, .ref q9, .ref q10, .ref q11, .null])), (q7, .inl (cI, 26, .inl (fun _ => 0))), (q12, .inr (9, [.int 0, .null, .null, .null, .null, .null, .null]))] := hD
  refine lv_dup hx hb dX4_init_103 rfl ?_
  have hPc := hP.sub (ws' := [(q12, .inr (9, [.int 0, .null, .null, .null, .null, .null, .null]))]) [2] rfl
  have hDc := hD.sub (ws' := [(q12, .inr (9, [.int 0, .null, .null, .null, .null, .null, .null]))]) [2] (by decide) rfl
  have hFc := va_free (wc := [(q12, .inr (9, [.int 0, .null, .null, .null, .null, .null, .null]))]) hD hS hA [2] rfl
  refine va_callv (va_runIN (As := []) (rest := [.ref q12, .ref h]) ⟨hx, hb, hml, hown, hgt⟩ (n_Rules l D cI cZ cC cJ q12 H.size) ⟨va_cnB 0 hgt (gC wd_0_47) rfl rfl rfl (va_Nw.warmM hO.1 hNw.2.2.1) (hgt _ wd_0_3) (by decide +kernel) ⟨Nat.le_of_ble_eq_true rfl, Nat.le_of_ble_eq_true rfl⟩, rfl, hgt _ wd_0_46⟩ ⟨fun a U g mk q => by obtain ⟨q0, q1, qP, qK, qD⟩ := q; exact ⟨q0, q1, qP, va_K.moved (u := U) (U := U.calling g mk a) (Vm.Alike.refl U.vm) qK, qD⟩, fun U hU hW => ⟨rfl, by rw [hU], by rw [hU]; exact hPc, va_K.moved hW.alike hK, hDc.weaken (fun _ _ _ _ => trivial)⟩⟩ rfl rfl hl.1 rfl (lv_room (Nat.le_of_ble_eq_true rfl)) dX4_init_104 ⟨Nat.le_of_ble_eq_true rfl, Nat.le_of_ble_eq_true rfl⟩) hS (fun q _ h => hFc q h) hFc (fun u t H1 locs ht hvm hw hB hz1 hk1 hS => ?_)
  obtain ⟨w13, hP1, hD1⟩ := hB
  rw [ht] at hP1
  obtain ⟨hP, hD⟩ := va_join (wr := [(h, .inr (4, [.int 0, .ref q1, .ref q2, .ref q3, .ref q4, .ref q5, .ref q6, .ref q7, .ref q8, .ref q9, .ref q10, .ref q11, .null])), (q7, .inl (cI, 26, .inl (fun _ => 0)))]) (w1 := [(q12, .inr (9, [.int 0, .ref (w13 0), .ref (w13 1), .ref (w13 2), .ref (w13 3), .ref (w13 4), .ref (w13 5)]))]) hP hD [2] [0, 1] rfl rfl (by decide) (by decide) hk1 hFc hP1 hD1
  generalize H1 = H at hP hS ⊢
  have hP : va_P D vwCl [(h, .inr (4, [.int 0, .ref q1, .ref q2, .ref q3, .ref q4, .ref q5, .ref q6, .ref q7, .ref q8, .ref q9, .ref q10, .ref q11, .null])), (q7, .inl (cI, 26, .inl (fun _ => 0))), (q12, .inr (9, [.int 0, .ref (w13 0), .ref (w13 1), .ref (w13 2), .ref (w13 3), .ref (w13 4), .ref (w13 5)]))] H := hP
  have hD : va_D A [(h, .inr (4, [.int 0, .ref q1, .ref q2, .ref q3, .ref q4, .ref q5, .ref q6, .ref q7, .ref q8, .ref q9, .ref q10, .ref q11, .null])), (q7, .inl (cI, 26, .inl (fun _ => 0))), (q12, .inr (9, [.int 0, .ref (w13 0), .ref (w13 1), .ref (w13 2), .ref (w13 3), .ref (w13 4), .ref (w13 5)]))] := hD
  refine va_putF (D := D) (ci := 4) (v := .ref q12) (ty := .object "ChipMap$Rules") (C := RX4) (T := TX4) (N := 13) hx hb hgt iwX4 tyX4 tyX4_ok nmX4 hown hK hP hD hS 0 rfl rfl 12 (Nat.le_of_ble_eq_true rfl) (hgt _ wd_1_45) (fun _ h9 => h9) rfl hin rfl (by decide +kernel) rfl rfl (Nat.le_of_ble_eq_true rfl) dX4_init_107 (fun H locs hP hD hS => ?_)
  have hP : va_P D vwCl [(h, .inr (4, [.int 0, .ref q1, .ref q2, .ref q3, .ref q4, .ref q5, .ref q6, .ref q7, .ref q8, .ref q9, .ref q10, .ref q11, .ref q12])), (q7, .inl (cI, 26, .inl (fun _ => 0))), (q12, .inr (9, [.int 0, .ref (w13 0), .ref (w13 1), .ref (w13 2), .ref (w13 3), .ref (w13 4), .ref (w13 5)]))] H := hP
  have hD : va_D A [(h, .inr (4, [.int 0, .ref q1, .ref q2, .ref q3, .ref q4, .ref q5, .ref q6, .ref q7, .ref q8, .ref q9, .ref q10, .ref q11, .ref q12])), (q7, .inl (cI, 26, .inl (fun _ => 0))), (q12, .inr (9, [.int 0, .ref (w13 0), .ref (w13 1), .ref (w13 2), .ref (w13 3), .ref (w13 4), .ref (w13 5)]))] := hD
  refine lv_aload_n hx hb dX4_init_110 rfl (lv_at hl 0 rfl) ?_
  refine va_get (D := D) (ci := 4) (v := .ref q7) (C := RX4) (T := TX4) (N := 13) hx hb hgt iwX4 hown hK hP 0 rfl rfl 7 (Nat.le_of_ble_eq_true rfl) (hgt _ wd_1_25) (fun _ h9 => h9) rfl dX4_init_111 ?_
  refine lv_iconst (v := (-1)) hx hb dX4_init_114 (by decide) ?_
  have hPc := hP.sub (ws' := [(q7, .inl (cI, 26, .inl (fun _ => 0)))]) [1] rfl
  have hDc := hD.sub (ws' := [(q7, .inl (cI, 26, .inl (fun _ => 0)))]) [1] (by decide) rfl
  have hFc := va_free (wc := [(q7, .inl (cI, 26, .inl (fun _ => 0)))]) hD hS hA [1] rfl
  refine va_callv (va_runS (As := [.ref q7, .int ((-1))]) (rest := []) ⟨hx, hb, hml, hown, hgt⟩ (j_fill l D cI cZ cC cJ q7 (fun _ => 0) (-1) H.size) (va_cwS 2 hgt (gS wd_1_1 wd_1_2 wd_0_8 wd_1_3) rfl rfl rfl (by decide +kernel) ⟨Nat.le_of_ble_eq_true rfl, Nat.le_of_ble_eq_true rfl⟩) ⟨fun a U g mk q => by obtain ⟨q0, q1, qP, qK, qD⟩ := q; exact ⟨q0, q1, qP, va_K.moved (u := U) (U := U.calling g mk a) (Vm.Alike.refl U.vm) qK, qD⟩, fun U hU hW => ⟨rfl, by rw [hU], by rw [hU]; exact hPc, va_K.moved hW.alike hK, hDc.weaken (fun _ _ _ _ => trivial)⟩⟩ rfl rfl hl.1 rfl (lv_room (Nat.le_of_ble_eq_true rfl)) dX4_init_115 ⟨Nat.le_of_ble_eq_true rfl, Nat.le_of_ble_eq_true rfl⟩) hS (fun q _ h => hFc q h) hFc (fun u t H1 locs ht hvm hw hB hz1 hk1 hS => ?_)
  obtain ⟨w14, hfh, hP1, hD1⟩ := hB
  rw [ht] at hP1
  obtain ⟨hP, hD⟩ := va_join (wr := [(h, .inr (4, [.int 0, .ref q1, .ref q2, .ref q3, .ref q4, .ref q5, .ref q6, .ref q7, .ref q8, .ref q9, .ref q10, .ref q11, .ref q12])), (q12, .inr (9, [.int 0, .ref (w13 0), .ref (w13 1), .ref (w13 2), .ref (w13 3), .ref (w13 4), .ref (w13 5)]))]) (w1 := [(q7, .inl (cI, 26, .inl w14))]) hP hD [1] [0, 2] rfl rfl (by decide) (by decide) hk1 hFc hP1 hD1
  generalize H1 = H at hP hS ⊢
  have hP : va_P D vwCl [(h, .inr (4, [.int 0, .ref q1, .ref q2, .ref q3, .ref q4, .ref q5, .ref q6, .ref q7, .ref q8, .ref q9, .ref q10, .ref q11, .ref q12])), (q12, .inr (9, [.int 0, .ref (w13 0), .ref (w13 1), .ref (w13 2), .ref (w13 3), .ref (w13 4), .ref (w13 5)])), (q7, .inl (cI, 26, .inl w14))] H := hP
  have hD : va_D A [(h, .inr (4, [.int 0, .ref q1, .ref q2, .ref q3, .ref q4, .ref q5, .ref q6, .ref q7, .ref q8, .ref q9, .ref q10, .ref q11, .ref q12])), (q12, .inr (9, [.int 0, .ref (w13 0), .ref (w13 1), .ref (w13 2), .ref (w13 3), .ref (w13 4), .ref (w13 5)])), (q7, .inl (cI, 26, .inl w14))] := hD
  have hP9 := hP.sub (ws' := [(h, .inr (4, [.int 0, .ref q1, .ref q2, .ref q3, .ref q4, .ref q5, .ref q6, .ref q7, .ref q8, .ref q9, .ref q10, .ref q11, .ref q12])), (q7, .inl (cI, 26, .inl w14)), (q12, .inr (9, [.int 0, .ref (w13 0), .ref (w13 1), .ref (w13 2), .ref (w13 3), .ref (w13 4), .ref (w13 5)]))]) [0, 2, 1] rfl
  have hD9 := hD.sub (ws' := [(h, .inr (4, [.int 0, .ref q1, .ref q2, .ref q3, .ref q4, .ref q5, .ref q6, .ref q7, .ref q8, .ref q9, .ref q10, .ref q11, .ref q12])), (q7, .inl (cI, 26, .inl w14)), (q12, .inr (9, [.int 0, .ref (w13 0), .ref (w13 1), .ref (w13 2), .ref (w13 3), .ref (w13 4), .ref (w13 5)]))]) [0, 2, 1] (by decide) rfl
  refine W.widen (k := 25) (n := 408) (Nat.le_of_ble_eq_true rfl) (Nat.le_of_ble_eq_true rfl) ?_
  exact W.vret hx hb hr (fun t ht hW => ⟨⟨(), rfl, trivial, q7, q12, (rl [q1, q2, q3, q4, q5, q6, q8, q9, q10, q11]), w13, w14, hfh, by rw [ht]; exact hP9, hD9⟩, hS.F ht⟩) hS.2.2 dX4_init_118
