set_option maxHeartbeats 4000000 in
set_option maxRecDepth 100000 in
theorem x_clear (l : Launch) (D : va_G) (cI cZ cC cJ : ClassId) (dr : Nat) (rp : Nat) (dru : Nat) (rD : Nat → Nat) (rU : Nat → Nat) (sz : Nat) : Met l yX2_clear wsX2_clear ({ frames := 0, cells := 0, slots := 0, locals := 0 }) (va_Pc [.ref dr] (fun U => U.heap.size = sz ∧ va_P D vwCl [(dr, .inr (2, [.int 0, .ref rp, .ref (rD 0), .ref (rD 1), .ref (rD 2), .ref (rD 3), .int 0, .ref (rD 4), .ref (rD 5), .ref (rD 6), .ref (rD 7), .ref (rD 8), .ref (rD 9), .ref (rD 10), .ref dru])), (dru, .inr (9, [.int 0, .ref (rU 0), .ref (rU 1), .ref (rU 2), .ref (rU 3), .ref (rU 4), .ref (rU 5)]))] U.heap ∧ va_K D vwCl [(cI, .int), (cZ, .boolean), (cC, .char), (cJ, .long)] U ∧ va_D (fun _ => True) [(dr, .inr (2, [.int 0, .ref rp, .ref (rD 0), .ref (rD 1), .ref (rD 2), .ref (rD 3), .int 0, .ref (rD 4), .ref (rD 5), .ref (rD 6), .ref (rD 7), .ref (rD 8), .ref (rD 9), .ref (rD 10), .ref dru])), (dru, .inr (9, [.int 0, .ref (rU 0), .ref (rU 1), .ref (rU 2), .ref (rU 3), .ref (rU 4), .ref (rU 5)]))])) (va_Qv (fun (_ : Unit) => True) (fun _ t => va_P D vwCl [(dr, .inr (2, [.int 0, .ref rp, .ref (rD 0), .ref (rD 1), .ref (rD 2), .ref (rD 3), .int 0, .ref (rD 4), .ref (rD 5), .ref (rD 6), .ref (rD 7), .ref (rD 8), .ref (rD 9), .ref (rD 10), .ref dru])), (dru, .inr (9, [.int 0, .ref (rU 0), .ref (rU 1), .ref (rU 2), .ref (rU 3), .ref (rU 4), .ref (rU 5)]))] t.heap ∧ va_D (va_A [(dr, .inr (2, [.int 0, .ref rp, .ref (rD 0), .ref (rD 1), .ref (rD 2), .ref (rD 3), .int 0, .ref (rD 4), .ref (rD 5), .ref (rD 6), .ref (rD 7), .ref (rD 8), .ref (rD 9), .ref (rD 10), .ref dru])), (dru, .inr (9, [.int 0, .ref (rU 0), .ref (rU 1), .ref (rU 2), .ref (rU 3), .ref (rU 4), .ref (rU 5)]))] sz) [(dr, .inr (2, [.int 0, .ref rp, .ref (rD 0), .ref (rD 1), .ref (rD 2), .ref (rD 3), .int 0, .ref (rD 4), .ref (rD 5), .ref (rD 6), .ref (rD 7), .ref (rD 8), .ref (rD 9), .ref (rD 10), .ref dru])), (dru, .inr (9, [.int 0, .ref (rU 0), .ref (rU 1), .ref (rU 2), .ref (rU 3), .ref (rU 4), .ref (rU 5)]))]) (va_A [(dr, .inr (2, [.int 0, .ref rp, .ref (rD 0), .ref (rD 1), .ref (rD 2), .ref (rD 3), .int 0, .ref (rD 4), .ref (rD 5), .ref (rD 6), .ref (rD 7), .ref (rD 8), .ref (rD 9), .ref (rD 10), .ref dru])), (dru, .inr (9, [.int 0, .ref (rU 0), .ref (rU 1), .ref (rU 2), .ref (rU 3), .ref (rU 4), .ref (rU 5)]))] sz)) 0 0 (va_A [(dr, .inr (2, [.int 0, .ref rp, .ref (rD 0), .ref (rD 1), .ref (rD 2), .ref (rD 3), .int 0, .ref (rD 4), .ref (rD 5), .ref (rD 6), .ref (rD 7), .ref (rD 8), .ref (rD 9), .ref (rD 10), .ref dru])), (dru, .inr (9, [.int 0, .ref (rU 0), .ref (rU 1), .ref (rU 2), .ref (rU 3), .ref (rU 4), .ref (rU 5)]))] sz) := by
  refine Met.ofW (cc := cX2_clear) (maxL := 1) (ret := none) (by decide) rfl ?_
  intro p e s m args below meth c s₁ B hml hv
  obtain ⟨rfl, hsz, hP, hK, hD0⟩ := hv
  have hx := B.exec
  have hb := B.bytes
  have hr := B.returns
  have hgt := fun w (h : w ∈ GT) => atoms_spec (ws := wsX2_clear) B.pre w (List.mem_cons_of_mem _ h)
  have hown : s.vm.findClass RX2 = some m.cls := findClass_of_methodNamed B.named
  have hlocks := B.notSynchronized
  subst hsz
  have hD := hD0.self (sz := s.heap.size)
  generalize hAe : va_A [(dr, .inr (2, [.int 0, .ref rp, .ref (rD 0), .ref (rD 1), .ref (rD 2), .ref (rD 3), .int 0, .ref (rD 4), .ref (rD 5), .ref (rD 6), .ref (rD 7), .ref (rD 8), .ref (rD 9), .ref (rD 10), .ref dru])), (dru, .inr (9, [.int 0, .ref (rU 0), .ref (rU 1), .ref (rU 2), .ref (rU 3), .ref (rU 4), .ref (rU 5)]))] s.heap.size = A at hD ⊢
  have hA : ∀ q : Nat, s.heap.size ≤ q → A q := fun q h => by rw [← hAe]; exact Or.inr h
  have hS : va_S A s.heap s.heap [] := va_S.rf
  have hP : va_P D vwCl [(dr, .inr (2, [.int 0, .ref rp, .ref (rD 0), .ref (rD 1), .ref (rD 2), .ref (rD 3), .int 0, .ref (rD 4), .ref (rD 5), .ref (rD 6), .ref (rD 7), .ref (rD 8), .ref (rD 9), .ref (rD 10), .ref dru])), (dru, .inr (9, [.int 0, .ref (rU 0), .ref (rU 1), .ref (rU 2), .ref (rU 3), .ref (rU 4), .ref (rU 5)]))] s.heap := hP
  have hl := lv_entry ([.ref dr]) (n := 1) (Nat.le_of_ble_eq_true rfl)
  rw [lg_entry_eq]
  generalize (lg_sl ([.ref dr]) ++ List.replicate (1 - (lg_sl ([.ref dr])).length) Slot.unset).toArray = ls at hl ⊢
  have hl : lv_has ls 1 [(0, .ref dr)] := hl
  refine lv_aload_n hx hb dX2_clear_0 rfl (lv_at hl 0 rfl) ?_
  refine lv_iconst (v := 0) hx hb dX2_clear_1 (by decide) ?_
  refine va_put (D := D) (ci := 2) (v := .int 0) (ty := .int) (C := RX2) (T := TX2) (N := 15) hx hb hgt iwX2 tyX2 tyX2_ok nmX2 hown hK hP hD hS 0 rfl rfl 0 (Nat.le_of_ble_eq_true rfl) (hgt _ wd_0_93) (fun _ h9 => h9) rfl (by decide +kernel) rfl rfl (Nat.le_of_ble_eq_true rfl) dX2_clear_2 (fun H locs hP hD hS => ?_)
  have hP : va_P D vwCl [(dr, .inr (2, [.int 0, .ref rp, .ref (rD 0), .ref (rD 1), .ref (rD 2), .ref (rD 3), .int 0, .ref (rD 4), .ref (rD 5), .ref (rD 6), .ref (rD 7), .ref (rD 8), .ref (rD 9), .ref (rD 10), .ref dru])), (dru, .inr (9, [.int 0, .ref (rU 0), .ref (rU 1), .ref (rU 2), .ref (rU 3), .ref (rU 4), .ref (rU 5)]))] H := hP
  have hD : va_D A [(dr, .inr (2, [.int 0, .ref rp, .ref (rD 0), .ref (rD 1), .ref (rD 2), .ref (rD 3), .int 0, .ref (rD 4), .ref (rD 5), .ref (rD 6), .ref (rD 7), .ref (rD 8), .ref (rD 9), .ref (rD 10), .ref dru])), (dru, .inr (9, [.int 0, .ref (rU 0), .ref (rU 1), .ref (rU 2), .ref (rU 3), .ref (rU 4), .ref (rU 5)]))] := hD
  refine lv_aload_n hx hb dX2_clear_5 rfl (lv_at hl 0 rfl) ?_
  refine lv_iconst (v := 0) hx hb dX2_clear_6 (by decide) ?_
  refine va_put (D := D) (ci := 2) (v := .int 0) (ty := .int) (C := RX2) (T := TX2) (N := 15) hx hb hgt iwX2 tyX2 tyX2_ok nmX2 hown hK hP hD hS 0 rfl rfl 6 (Nat.le_of_ble_eq_true rfl) (hgt _ wd_0_115) (fun _ h9 => h9) rfl (by decide +kernel) rfl rfl (Nat.le_of_ble_eq_true rfl) dX2_clear_7 (fun H locs hP hD hS => ?_)
  have hP : va_P D vwCl [(dr, .inr (2, [.int 0, .ref rp, .ref (rD 0), .ref (rD 1), .ref (rD 2), .ref (rD 3), .int 0, .ref (rD 4), .ref (rD 5), .ref (rD 6), .ref (rD 7), .ref (rD 8), .ref (rD 9), .ref (rD 10), .ref dru])), (dru, .inr (9, [.int 0, .ref (rU 0), .ref (rU 1), .ref (rU 2), .ref (rU 3), .ref (rU 4), .ref (rU 5)]))] H := hP
  have hD : va_D A [(dr, .inr (2, [.int 0, .ref rp, .ref (rD 0), .ref (rD 1), .ref (rD 2), .ref (rD 3), .int 0, .ref (rD 4), .ref (rD 5), .ref (rD 6), .ref (rD 7), .ref (rD 8), .ref (rD 9), .ref (rD 10), .ref dru])), (dru, .inr (9, [.int 0, .ref (rU 0), .ref (rU 1), .ref (rU 2), .ref (rU 3), .ref (rU 4), .ref (rU 5)]))] := hD
  refine lv_aload_n hx hb dX2_clear_10 rfl (lv_at hl 0 rfl) ?_
  refine va_get (D := D) (ci := 2) (v := .ref dru) (C := RX2) (T := TX2) (N := 15) hx hb hgt iwX2 hown hK hP 0 rfl rfl 14 (Nat.le_of_ble_eq_true rfl) (hgt _ wd_0_146) (fun _ h9 => h9) rfl dX2_clear_11 ?_
  refine lv_iconst (v := 0) hx hb dX2_clear_14 (by decide) ?_
  refine va_put (D := D) (ci := 9) (v := .int 0) (ty := .int) (C := RX9) (T := TX9) (N := 7) hx hb hgt iwX9 tyX9 tyX9_ok nmX9 hown hK hP hD hS 1 rfl rfl 0 (Nat.le_of_ble_eq_true rfl) (hgt _ wd_0_50) (fun _ h9 => h9) rfl (by decide +kernel) rfl rfl (Nat.le_of_ble_eq_true rfl) dX2_clear_15 (fun H locs hP hD hS => ?_)
  have hP : va_P D vwCl [(dr, .inr (2, [.int 0, .ref rp, .ref (rD 0), .ref (rD 1), .ref (rD 2), .ref (rD 3), .int 0, .ref (rD 4), .ref (rD 5), .ref (rD 6), .ref (rD 7), .ref (rD 8), .ref (rD 9), .ref (rD 10), .ref dru])), (dru, .inr (9, [.int 0, .ref (rU 0), .ref (rU 1), .ref (rU 2), .ref (rU 3), .ref (rU 4), .ref (rU 5)]))] H := hP
  have hD : va_D A [(dr, .inr (2, [.int 0, .ref rp, .ref (rD 0), .ref (rD 1), .ref (rD 2), .ref (rD 3), .int 0, .ref (rD 4), .ref (rD 5), .ref (rD 6), .ref (rD 7), .ref (rD 8), .ref (rD 9), .ref (rD 10), .ref dru])), (dru, .inr (9, [.int 0, .ref (rU 0), .ref (rU 1), .ref (rU 2), .ref (rU 3), .ref (rU 4), .ref (rU 5)]))] := hD
  have hP9 := hP.sub (ws' := [(dr, .inr (2, [.int 0, .ref rp, .ref (rD 0), .ref (rD 1), .ref (rD 2), .ref (rD 3), .int 0, .ref (rD 4), .ref (rD 5), .ref (rD 6), .ref (rD 7), .ref (rD 8), .ref (rD 9), .ref (rD 10), .ref dru])), (dru, .inr (9, [.int 0, .ref (rU 0), .ref (rU 1), .ref (rU 2), .ref (rU 3), .ref (rU 4), .ref (rU 5)]))]) [0, 1] rfl
  have hD9 := hD.sub (ws' := [(dr, .inr (2, [.int 0, .ref rp, .ref (rD 0), .ref (rD 1), .ref (rD 2), .ref (rD 3), .int 0, .ref (rD 4), .ref (rD 5), .ref (rD 6), .ref (rD 7), .ref (rD 8), .ref (rD 9), .ref (rD 10), .ref dru])), (dru, .inr (9, [.int 0, .ref (rU 0), .ref (rU 1), .ref (rU 2), .ref (rU 3), .ref (rU 4), .ref (rU 5)]))]) [0, 1] (by decide) rfl
  refine W.widen (k := 0) (n := 0) (Nat.le_of_ble_eq_true rfl) (Nat.le_of_ble_eq_true rfl) ?_
  exact W.vret hx hb hr (fun t ht hW => ⟨⟨(), rfl, trivial, by rw [ht]; exact hP9, hD9⟩, hS.F ht⟩) hS.2.2 dX2_clear_18
set_option maxHeartbeats 4000000 in
set_option maxRecDepth 100000 in
theorem x_next (l : Launch) (D : va_G) (cI cZ cC cJ : ClassId) (rd : Nat) (dr : Nat) (tp : Nat) (sz : Nat) : Met l yX8_next wsX8_next ({ frames := 0, cells := 0, slots := 0, locals := 0 }) (va_Pc [.ref rd] (fun U => U.heap.size = sz ∧ va_P D vwCl [(rd, .inr (8, [.ref dr, .ref tp, .int 0, .int 0]))] U.heap ∧ va_K D vwCl [(cI, .int), (cZ, .boolean), (cC, .char), (cJ, .long)] U ∧ va_D (fun _ => True) [(rd, .inr (8, [.ref dr, .ref tp, .int 0, .int 0]))])) (va_Qi (fun (r : Int32) (_ : Unit) => r = 0) (fun _ t => va_P D vwCl [(rd, .inr (8, [.ref dr, .ref tp, .int 0, .int 0]))] t.heap ∧ va_D (va_A [(rd, .inr (8, [.ref dr, .ref tp, .int 0, .int 0]))] sz) [(rd, .inr (8, [.ref dr, .ref tp, .int 0, .int 0]))]) (va_A [(rd, .inr (8, [.ref dr, .ref tp, .int 0, .int 0]))] sz)) 0 0 (va_A [(rd, .inr (8, [.ref dr, .ref tp, .int 0, .int 0]))] sz) := by
  refine Met.ofW (cc := cX8_next) (maxL := 1) (ret := (some .char)) (by decide) rfl ?_
  intro p e s m args below meth c s₁ B hml hv
  obtain ⟨rfl, hsz, hP, hK, hD0⟩ := hv
  have hx := B.exec
  have hb := B.bytes
  have hr := B.returns
  have hgt := fun w (h : w ∈ GT) => atoms_spec (ws := wsX8_next) B.pre w (List.mem_cons_of_mem _ h)
  have hown : s.vm.findClass RX8 = some m.cls := findClass_of_methodNamed B.named
  have hlocks := B.notSynchronized
  subst hsz
  have hD := hD0.self (sz := s.heap.size)
  generalize hAe : va_A [(rd, .inr (8, [.ref dr, .ref tp, .int 0, .int 0]))] s.heap.size = A at hD ⊢
  have hA : ∀ q : Nat, s.heap.size ≤ q → A q := fun q h => by rw [← hAe]; exact Or.inr h
  have hS : va_S A s.heap s.heap [] := va_S.rf
  have hP : va_P D vwCl [(rd, .inr (8, [.ref dr, .ref tp, .int 0, .int 0]))] s.heap := hP
  have hl := lv_entry ([.ref rd]) (n := 1) (Nat.le_of_ble_eq_true rfl)
  rw [lg_entry_eq]
  generalize (lg_sl ([.ref rd]) ++ List.replicate (1 - (lg_sl ([.ref rd])).length) Slot.unset).toArray = ls at hl ⊢
  have hl : lv_has ls 1 [(0, .ref rd)] := hl
  refine lv_aload_n hx hb dX8_next_0 rfl (lv_at hl 0 rfl) ?_
  refine va_get (D := D) (ci := 8) (v := .int 0) (C := RX8) (T := TX8) (N := 4) hx hb hgt iwX8 hown hK hP 0 rfl rfl 3 (Nat.le_of_ble_eq_true rfl) (hgt _ wd_0_191) (fun _ h9 => h9) rfl dX8_next_1 ?_
  refine lv_aload_n hx hb dX8_next_4 rfl (lv_at hl 0 rfl) ?_
  refine va_get (D := D) (ci := 8) (v := .int 0) (C := RX8) (T := TX8) (N := 4) hx hb hgt iwX8 hown hK hP 0 rfl rfl 2 (Nat.le_of_ble_eq_true rfl) (hgt _ wd_0_189) (fun _ h9 => h9) rfl dX8_next_5 ?_
  refine lv_icmp_ge hx hb dX8_next_8 (tgt := 23) rfl (fun _ => ?_) (fun h_8 => absurd (by decide) h_8)
  refine lv_iconst (v := 0) hx hb dX8_next_23 (by decide) ?_
  have hP9 := hP.sub (ws' := [(rd, .inr (8, [.ref dr, .ref tp, .int 0, .int 0]))]) [0] rfl
  have hD9 := hD.sub (ws' := [(rd, .inr (8, [.ref dr, .ref tp, .int 0, .int 0]))]) [0] (by decide) rfl
  refine W.widen (k := 0) (n := 0) (Nat.le_of_ble_eq_true rfl) (Nat.le_of_ble_eq_true rfl) ?_
  exact W.zret (v := 0) (ty := .char) hx hb hr (by decide) (fun t ht hW => ⟨⟨0, (), rfl, rfl, by rw [ht]; exact hP9, hD9⟩, hS.F ht⟩) hS.2.2 dX8_next_24
set_option maxHeartbeats 4000000 in
set_option maxRecDepth 100000 in
theorem x_take (l : Launch) (D : va_G) (cI cZ cC cJ : ClassId) (rd : Nat) (dr : Nat) (tp : Nat) (sz : Nat) : Met l yX8_take wsX8_take ({ frames := 1, cells := 0, slots := 0, locals := 20 }) (va_Pc [.ref rd, .int 64] (fun U => U.heap.size = sz ∧ va_P D vwCl [(rd, .inr (8, [.ref dr, .ref tp, .int 0, .int 0]))] U.heap ∧ va_K D vwCl [(cI, .int), (cZ, .boolean), (cC, .char), (cJ, .long)] U ∧ va_D (fun _ => True) [(rd, .inr (8, [.ref dr, .ref tp, .int 0, .int 0]))])) (va_Qi (fun (r : Int32) (_ : Unit) => r = 0) (fun _ t => va_P D vwCl [(rd, .inr (8, [.ref dr, .ref tp, .int 0, .int 0]))] t.heap ∧ va_D (va_A [(rd, .inr (8, [.ref dr, .ref tp, .int 0, .int 0]))] sz) [(rd, .inr (8, [.ref dr, .ref tp, .int 0, .int 0]))]) (va_A [(rd, .inr (8, [.ref dr, .ref tp, .int 0, .int 0]))] sz)) 0 0 (va_A [(rd, .inr (8, [.ref dr, .ref tp, .int 0, .int 0]))] sz) := by
  refine Met.ofW (cc := cX8_take) (maxL := 2) (ret := (some .boolean)) (by decide) rfl ?_
  intro p e s m args below meth c s₁ B hml hv
  obtain ⟨rfl, hsz, hP, hK, hD0⟩ := hv
  have hx := B.exec
  have hb := B.bytes
  have hr := B.returns
  have hgt := fun w (h : w ∈ GT) => atoms_spec (ws := wsX8_take) B.pre w (List.mem_cons_of_mem _ h)
  have hown : s.vm.findClass RX8 = some m.cls := findClass_of_methodNamed B.named
  have hlocks := B.notSynchronized
  subst hsz
  have hD := hD0.self (sz := s.heap.size)
  generalize hAe : va_A [(rd, .inr (8, [.ref dr, .ref tp, .int 0, .int 0]))] s.heap.size = A at hD ⊢
  have hA : ∀ q : Nat, s.heap.size ≤ q → A q := fun q h => by rw [← hAe]; exact Or.inr h
  have hS : va_S A s.heap s.heap [] := va_S.rf
  have hP : va_P D vwCl [(rd, .inr (8, [.ref dr, .ref tp, .int 0, .int 0]))] s.heap := hP
  have hl := lv_entry ([.ref rd, .int 64]) (n := 2) (Nat.le_of_ble_eq_true rfl)
  rw [lg_entry_eq]
  generalize (lg_sl ([.ref rd, .int 64]) ++ List.replicate (2 - (lg_sl ([.ref rd, .int 64])).length) Slot.unset).toArray = ls at hl ⊢
  have hl : lv_has ls 2 [(0, .ref rd), (1, .int 64)] := hl
  refine lv_aload_n hx hb dX8_take_0 rfl (lv_at hl 0 rfl) ?_
  have hPc := hP.sub (ws' := [(rd, .inr (8, [.ref dr, .ref tp, .int 0, .int 0]))]) [0] rfl
  have hDc := hD.sub (ws' := [(rd, .inr (8, [.ref dr, .ref tp, .int 0, .int 0]))]) [0] (by decide) rfl
  have hFc := va_free (wc := [(rd, .inr (8, [.ref dr, .ref tp, .int 0, .int 0]))]) hD hS hA [0] rfl
  refine va_calli (va_runV (As := []) (rest := []) ⟨hx, hb, hml, hown, hgt⟩ (x_next l D cI cZ cC cJ rd dr tp s.heap.size) (cwV 0 hgt (gV wd_3_150 wd_3_152 sl__ChipMap_Reader____ChipMap_Reader___next_____C_____ChipMap_Reader___next_____C__ wd_0_4 wd_3_153) rfl rfl rfl (by decide +kernel) ⟨Nat.le_of_ble_eq_true rfl, Nat.le_of_ble_eq_true rfl⟩) ⟨fun a U g mk q => by obtain ⟨q0, q1, qP, qK, qD⟩ := q; exact ⟨q0, q1, qP, va_K.moved (u := U) (U := U.calling g mk a) (Vm.Alike.refl U.vm) qK, qD⟩, va_recv hK hP (ci := 8) (q0 := 0) rfl rfl, fun U hU hW => ⟨rfl, by rw [hU], by rw [hU]; exact hPc, va_K.moved hW.alike hK, hDc.weaken (fun _ _ _ _ => trivial)⟩⟩ rfl rfl hl.1 rfl (lv_room (Nat.le_of_ble_eq_true rfl)) dX8_take_1 ⟨Nat.le_of_ble_eq_true rfl, Nat.le_of_ble_eq_true rfl⟩) hS (fun q _ h => hFc q h) hFc (fun r u t H1 locs ht hvm hw hB hz1 hk1 hS => ?_)
  obtain ⟨hP1, hD1⟩ := hB
  rw [ht] at hP1
  obtain ⟨hP, hD⟩ := va_join (wr := []) (w1 := [(rd, .inr (8, [.ref dr, .ref tp, .int 0, .int 0]))]) hP hD [0] [] rfl rfl (by decide) (by decide) hk1 hFc hP1 hD1
  generalize H1 = H at hP hS ⊢
  have hP : va_P D vwCl [(rd, .inr (8, [.ref dr, .ref tp, .int 0, .int 0]))] H := hP
  have hD : va_D A [(rd, .inr (8, [.ref dr, .ref tp, .int 0, .int 0]))] := hD
  obtain rfl : r = 0 := hw
  refine lv_iload_n hx hb dX8_take_4 rfl (lv_at hl 1 rfl) ?_
  refine lv_icmp_eq hx hb dX8_take_5 (tgt := 10) rfl (fun h_5 => absurd h_5 (by decide)) (fun _ => ?_)
  refine lv_iconst (v := 0) hx hb dX8_take_8 (by decide) ?_
  have hP9 := hP.sub (ws' := [(rd, .inr (8, [.ref dr, .ref tp, .int 0, .int 0]))]) [0] rfl
  have hD9 := hD.sub (ws' := [(rd, .inr (8, [.ref dr, .ref tp, .int 0, .int 0]))]) [0] (by decide) rfl
  refine W.widen (k := 0) (n := 0) (Nat.le_of_ble_eq_true rfl) (Nat.le_of_ble_eq_true rfl) ?_
  exact W.zret (v := 0) (ty := .boolean) hx hb hr (by decide) (fun t ht hW => ⟨⟨0, (), rfl, rfl, by rw [ht]; exact hP9, hD9⟩, hS.F ht⟩) hS.2.2 dX8_take_9
set_option maxHeartbeats 4000000 in
set_option maxRecDepth 100000 in
theorem x_readRegister (l : Launch) (D : va_G) (cI cZ cC cJ : ClassId) (rd : Nat) (dr : Nat) (tp : Nat) (rp : Nat) (dru : Nat) (rD : Nat → Nat) (fp : Nat → Int32) (sz : Nat) : Met l yX8_readRegister wsX8_readRegister ({ frames := 2, cells := 0, slots := 0, locals := 41 }) (va_Pc [.ref rd, .int 0] (fun U => U.heap.size = sz ∧ va_P D vwCl [(rd, .inr (8, [.ref dr, .ref tp, .int 0, .int 0])), (dr, .inr (2, [.int 0, .ref rp, .ref (rD 0), .ref (rD 1), .ref (rD 2), .ref (rD 3), .int 0, .ref (rD 4), .ref (rD 5), .ref (rD 6), .ref (rD 7), .ref (rD 8), .ref (rD 9), .ref (rD 10), .ref dru])), (rp, .inl (cI, 16, .inl fp))] U.heap ∧ va_K D vwCl [(cI, .int), (cZ, .boolean), (cC, .char), (cJ, .long)] U ∧ va_D (fun _ => True) [(rd, .inr (8, [.ref dr, .ref tp, .int 0, .int 0])), (dr, .inr (2, [.int 0, .ref rp, .ref (rD 0), .ref (rD 1), .ref (rD 2), .ref (rD 3), .int 0, .ref (rD 4), .ref (rD 5), .ref (rD 6), .ref (rD 7), .ref (rD 8), .ref (rD 9), .ref (rD 10), .ref dru])), (rp, .inl (cI, 16, .inl fp))])) (va_Qi (fun (r : Int32) (_ : Unit) => r = 0) (fun _ t => va_P D vwCl [(rd, .inr (8, [.ref dr, .ref tp, .int 0, .int 0])), (dr, .inr (2, [.int 0, .ref rp, .ref (rD 0), .ref (rD 1), .ref (rD 2), .ref (rD 3), .int 0, .ref (rD 4), .ref (rD 5), .ref (rD 6), .ref (rD 7), .ref (rD 8), .ref (rD 9), .ref (rD 10), .ref dru]))] t.heap ∧ va_D (va_A [(rd, .inr (8, [.ref dr, .ref tp, .int 0, .int 0])), (dr, .inr (2, [.int 0, .ref rp, .ref (rD 0), .ref (rD 1), .ref (rD 2), .ref (rD 3), .int 0, .ref (rD 4), .ref (rD 5), .ref (rD 6), .ref (rD 7), .ref (rD 8), .ref (rD 9), .ref (rD 10), .ref dru])), (rp, .inl (cI, 16, .inl fp))] sz) [(rd, .inr (8, [.ref dr, .ref tp, .int 0, .int 0])), (dr, .inr (2, [.int 0, .ref rp, .ref (rD 0), .ref (rD 1), .ref (rD 2), .ref (rD 3), .int 0, .ref (rD 4), .ref (rD 5), .ref (rD 6), .ref (rD 7), .ref (rD 8), .ref (rD 9), .ref (rD 10), .ref dru]))]) (va_A [(rd, .inr (8, [.ref dr, .ref tp, .int 0, .int 0])), (dr, .inr (2, [.int 0, .ref rp, .ref (rD 0), .ref (rD 1), .ref (rD 2), .ref (rD 3), .int 0, .ref (rD 4), .ref (rD 5), .ref (rD 6), .ref (rD 7), .ref (rD 8), .ref (rD 9), .ref (rD 10), .ref dru])), (rp, .inl (cI, 16, .inl fp))] sz)) 0 0 (va_A [(rd, .inr (8, [.ref dr, .ref tp, .int 0, .int 0])), (dr, .inr (2, [.int 0, .ref rp, .ref (rD 0), .ref (rD 1), .ref (rD 2), .ref (rD 3), .int 0, .ref (rD 4), .ref (rD 5), .ref (rD 6), .ref (rD 7), .ref (rD 8), .ref (rD 9), .ref (rD 10), .ref dru])), (rp, .inl (cI, 16, .inl fp))] sz) := by
  refine Met.ofW (cc := cX8_readRegister) (maxL := 3) (ret := (some .boolean)) (by decide) rfl ?_
  intro p e s m args below meth c s₁ B hml hv
  obtain ⟨rfl, hsz, hP, hK, hD0⟩ := hv
  have hx := B.exec
  have hb := B.bytes
  have hr := B.returns
  have hgt := fun w (h : w ∈ GT) => atoms_spec (ws := wsX8_readRegister) B.pre w (List.mem_cons_of_mem _ h)
  have hown : s.vm.findClass RX8 = some m.cls := findClass_of_methodNamed B.named
  have hlocks := B.notSynchronized
  subst hsz
  have hD := hD0.self (sz := s.heap.size)
  generalize hAe : va_A [(rd, .inr (8, [.ref dr, .ref tp, .int 0, .int 0])), (dr, .inr (2, [.int 0, .ref rp, .ref (rD 0), .ref (rD 1), .ref (rD 2), .ref (rD 3), .int 0, .ref (rD 4), .ref (rD 5), .ref (rD 6), .ref (rD 7), .ref (rD 8), .ref (rD 9), .ref (rD 10), .ref dru])), (rp, .inl (cI, 16, .inl fp))] s.heap.size = A at hD ⊢
  have hA : ∀ q : Nat, s.heap.size ≤ q → A q := fun q h => by rw [← hAe]; exact Or.inr h
  have hS : va_S A s.heap s.heap [] := va_S.rf
  have hP : va_P D vwCl [(rd, .inr (8, [.ref dr, .ref tp, .int 0, .int 0])), (dr, .inr (2, [.int 0, .ref rp, .ref (rD 0), .ref (rD 1), .ref (rD 2), .ref (rD 3), .int 0, .ref (rD 4), .ref (rD 5), .ref (rD 6), .ref (rD 7), .ref (rD 8), .ref (rD 9), .ref (rD 10), .ref dru])), (rp, .inl (cI, 16, .inl fp))] s.heap := hP
  have hl := lv_entry ([.ref rd, .int 0]) (n := 3) (Nat.le_of_ble_eq_true rfl)
  rw [lg_entry_eq]
  generalize (lg_sl ([.ref rd, .int 0]) ++ List.replicate (3 - (lg_sl ([.ref rd, .int 0])).length) Slot.unset).toArray = ls at hl ⊢
  have hl : lv_has ls 3 [(0, .ref rd), (1, .int 0)] := hl
  refine lv_aload_n hx hb dX8_readRegister_0 rfl (lv_at hl 0 rfl) ?_
  refine va_get (D := D) (ci := 8) (v := .ref dr) (C := RX8) (T := TX8) (N := 4) hx hb hgt iwX8 hown hK hP 0 rfl rfl 0 (Nat.le_of_ble_eq_true rfl) (hgt _ wd_0_187) (fun _ h9 => h9) rfl dX8_readRegister_1 ?_
  refine va_get (D := D) (ci := 2) (v := .ref rp) (C := RX2) (T := TX2) (N := 15) hx hb hgt iwX2 hown hK hP 1 rfl rfl 1 (Nat.le_of_ble_eq_true rfl) (hgt _ wd_0_99) (fun _ h9 => h9) rfl dX8_readRegister_4 ?_
  refine lv_iload_n hx hb dX8_readRegister_7 rfl (lv_at hl 1 rfl) ?_
  refine lv_aload_n hx hb dX8_readRegister_8 rfl (lv_at hl 0 rfl) ?_
  refine va_get (D := D) (ci := 8) (v := .int 0) (C := RX8) (T := TX8) (N := 4) hx hb hgt iwX8 hown hK hP 0 rfl rfl 3 (Nat.le_of_ble_eq_true rfl) (hgt _ wd_0_191) (fun _ h9 => h9) rfl dX8_readRegister_9 ?_
  refine va_iast hx hb hK hP hD hS 2 0 rfl rfl (by unfold vp_in; decide) dX8_readRegister_12 (fun H locs hP hD hS => ?_)
  have hP : va_P D vwCl [(rd, .inr (8, [.ref dr, .ref tp, .int 0, .int 0])), (dr, .inr (2, [.int 0, .ref rp, .ref (rD 0), .ref (rD 1), .ref (rD 2), .ref (rD 3), .int 0, .ref (rD 4), .ref (rD 5), .ref (rD 6), .ref (rD 7), .ref (rD 8), .ref (rD 9), .ref (rD 10), .ref dru])), (rp, .inl (cI, 16, .inl (upd fp (0 : Int32).toNatClampNeg 0)))] H := hP
  have hD : va_D A [(rd, .inr (8, [.ref dr, .ref tp, .int 0, .int 0])), (dr, .inr (2, [.int 0, .ref rp, .ref (rD 0), .ref (rD 1), .ref (rD 2), .ref (rD 3), .int 0, .ref (rD 4), .ref (rD 5), .ref (rD 6), .ref (rD 7), .ref (rD 8), .ref (rD 9), .ref (rD 10), .ref dru])), (rp, .inl (cI, 16, .inl (upd fp (0 : Int32).toNatClampNeg 0)))] := hD
  refine lv_aload_n hx hb dX8_readRegister_13 rfl (lv_at hl 0 rfl) ?_
  refine lv_bipush (v := 64) hx hb dX8_readRegister_14 (by decide) ?_
  have hPc := hP.sub (ws' := [(rd, .inr (8, [.ref dr, .ref tp, .int 0, .int 0]))]) [0] rfl
  have hDc := hD.sub (ws' := [(rd, .inr (8, [.ref dr, .ref tp, .int 0, .int 0]))]) [0] (by decide) rfl
  have hFc := va_free (wc := [(rd, .inr (8, [.ref dr, .ref tp, .int 0, .int 0]))]) hD hS hA [0] rfl
  refine va_calli (va_runV (As := [.int 64]) (rest := []) ⟨hx, hb, hml, hown, hgt⟩ (x_take l D cI cZ cC cJ rd dr tp H.size) (cwV 1 hgt (gV wd_3_158 wd_3_160 sl__ChipMap_Reader____ChipMap_Reader___take____C_Z_____ChipMap_Reader___take____C_Z__ wd_0_4 wd_3_161) rfl rfl rfl (by decide +kernel) ⟨Nat.le_of_ble_eq_true rfl, Nat.le_of_ble_eq_true rfl⟩) ⟨fun a U g mk q => by obtain ⟨q0, q1, qP, qK, qD⟩ := q; exact ⟨q0, q1, qP, va_K.moved (u := U) (U := U.calling g mk a) (Vm.Alike.refl U.vm) qK, qD⟩, va_recv hK hP (ci := 8) (q0 := 0) rfl rfl, fun U hU hW => ⟨rfl, by rw [hU], by rw [hU]; exact hPc, va_K.moved hW.alike hK, hDc.weaken (fun _ _ _ _ => trivial)⟩⟩ rfl rfl hl.1 rfl (lv_room (Nat.le_of_ble_eq_true rfl)) dX8_readRegister_16 ⟨Nat.le_of_ble_eq_true rfl, Nat.le_of_ble_eq_true rfl⟩) hS (fun q _ h => hFc q h) hFc (fun r u t H1 locs ht hvm hw hB hz1 hk1 hS => ?_)
  obtain ⟨hP1, hD1⟩ := hB
  rw [ht] at hP1
  obtain ⟨hP, hD⟩ := va_join (wr := [(dr, .inr (2, [.int 0, .ref rp, .ref (rD 0), .ref (rD 1), .ref (rD 2), .ref (rD 3), .int 0, .ref (rD 4), .ref (rD 5), .ref (rD 6), .ref (rD 7), .ref (rD 8), .ref (rD 9), .ref (rD 10), .ref dru])), (rp, .inl (cI, 16, .inl (upd fp (0 : Int32).toNatClampNeg 0)))]) (w1 := [(rd, .inr (8, [.ref dr, .ref tp, .int 0, .int 0]))]) hP hD [0] [1, 2] rfl rfl (by decide) (by decide) hk1 hFc hP1 hD1
  generalize H1 = H at hP hS ⊢
  have hP : va_P D vwCl [(dr, .inr (2, [.int 0, .ref rp, .ref (rD 0), .ref (rD 1), .ref (rD 2), .ref (rD 3), .int 0, .ref (rD 4), .ref (rD 5), .ref (rD 6), .ref (rD 7), .ref (rD 8), .ref (rD 9), .ref (rD 10), .ref dru])), (rp, .inl (cI, 16, .inl (upd fp (0 : Int32).toNatClampNeg 0))), (rd, .inr (8, [.ref dr, .ref tp, .int 0, .int 0]))] H := hP
  have hD : va_D A [(dr, .inr (2, [.int 0, .ref rp, .ref (rD 0), .ref (rD 1), .ref (rD 2), .ref (rD 3), .int 0, .ref (rD 4), .ref (rD 5), .ref (rD 6), .ref (rD 7), .ref (rD 8), .ref (rD 9), .ref (rD 10), .ref dru])), (rp, .inl (cI, 16, .inl (upd fp (0 : Int32).toNatClampNeg 0))), (rd, .inr (8, [.ref dr, .ref tp, .int 0, .int 0]))] := hD
  obtain rfl : r = 0 := hw
  refine lv_if_ne hx hb dX8_readRegister_19 (tgt := 24) rfl (fun h_19 => absurd (by decide) h_19) (fun _ => ?_)
  refine lv_iconst (v := 0) hx hb dX8_readRegister_22 (by decide) ?_
  have hP9 := hP.sub (ws' := [(rd, .inr (8, [.ref dr, .ref tp, .int 0, .int 0])), (dr, .inr (2, [.int 0, .ref rp, .ref (rD 0), .ref (rD 1), .ref (rD 2), .ref (rD 3), .int 0, .ref (rD 4), .ref (rD 5), .ref (rD 6), .ref (rD 7), .ref (rD 8), .ref (rD 9), .ref (rD 10), .ref dru]))]) [2, 0] rfl
  have hD9 := hD.sub (ws' := [(rd, .inr (8, [.ref dr, .ref tp, .int 0, .int 0])), (dr, .inr (2, [.int 0, .ref rp, .ref (rD 0), .ref (rD 1), .ref (rD 2), .ref (rD 3), .int 0, .ref (rD 4), .ref (rD 5), .ref (rD 6), .ref (rD 7), .ref (rD 8), .ref (rD 9), .ref (rD 10), .ref dru]))]) [2, 0] (by decide) rfl
  refine W.widen (k := 0) (n := 0) (Nat.le_of_ble_eq_true rfl) (Nat.le_of_ble_eq_true rfl) ?_
  exact W.zret (v := 0) (ty := .boolean) hx hb hr (by decide) (fun t ht hW => ⟨⟨0, (), rfl, rfl, by rw [ht]; exact hP9, hD9⟩, hS.F ht⟩) hS.2.2 dX8_readRegister_23
set_option maxHeartbeats 4000000 in
set_option maxRecDepth 100000 in
theorem x_readRegisters (l : Launch) (D : va_G) (cI cZ cC cJ : ClassId) (rd : Nat) (dr : Nat) (tp : Nat) (rp : Nat) (dru : Nat) (rD : Nat → Nat) (fp : Nat → Int32) (sz : Nat) : Met l yX8_readRegisters wsX8_readRegisters ({ frames := 3, cells := 0, slots := 0, locals := 63 }) (va_Pc [.ref rd] (fun U => U.heap.size = sz ∧ va_P D vwCl [(rd, .inr (8, [.ref dr, .ref tp, .int 0, .int 0])), (dr, .inr (2, [.int 0, .ref rp, .ref (rD 0), .ref (rD 1), .ref (rD 2), .ref (rD 3), .int 0, .ref (rD 4), .ref (rD 5), .ref (rD 6), .ref (rD 7), .ref (rD 8), .ref (rD 9), .ref (rD 10), .ref dru])), (rp, .inl (cI, 16, .inl fp))] U.heap ∧ va_K D vwCl [(cI, .int), (cZ, .boolean), (cC, .char), (cJ, .long)] U ∧ va_D (fun _ => True) [(rd, .inr (8, [.ref dr, .ref tp, .int 0, .int 0])), (dr, .inr (2, [.int 0, .ref rp, .ref (rD 0), .ref (rD 1), .ref (rD 2), .ref (rD 3), .int 0, .ref (rD 4), .ref (rD 5), .ref (rD 6), .ref (rD 7), .ref (rD 8), .ref (rD 9), .ref (rD 10), .ref dru])), (rp, .inl (cI, 16, .inl fp))])) (va_Qi (fun (r : Int32) (_ : Unit) => r = 0) (fun _ t => va_P D vwCl [(rd, .inr (8, [.ref dr, .ref tp, .int 0, .int 0])), (dr, .inr (2, [.int 0, .ref rp, .ref (rD 0), .ref (rD 1), .ref (rD 2), .ref (rD 3), .int 0, .ref (rD 4), .ref (rD 5), .ref (rD 6), .ref (rD 7), .ref (rD 8), .ref (rD 9), .ref (rD 10), .ref dru]))] t.heap ∧ va_D (va_A [(rd, .inr (8, [.ref dr, .ref tp, .int 0, .int 0])), (dr, .inr (2, [.int 0, .ref rp, .ref (rD 0), .ref (rD 1), .ref (rD 2), .ref (rD 3), .int 0, .ref (rD 4), .ref (rD 5), .ref (rD 6), .ref (rD 7), .ref (rD 8), .ref (rD 9), .ref (rD 10), .ref dru])), (rp, .inl (cI, 16, .inl fp))] sz) [(rd, .inr (8, [.ref dr, .ref tp, .int 0, .int 0])), (dr, .inr (2, [.int 0, .ref rp, .ref (rD 0), .ref (rD 1), .ref (rD 2), .ref (rD 3), .int 0, .ref (rD 4), .ref (rD 5), .ref (rD 6), .ref (rD 7), .ref (rD 8), .ref (rD 9), .ref (rD 10), .ref dru]))]) (va_A [(rd, .inr (8, [.ref dr, .ref tp, .int 0, .int 0])), (dr, .inr (2, [.int 0, .ref rp, .ref (rD 0), .ref (rD 1), .ref (rD 2), .ref (rD 3), .int 0, .ref (rD 4), .ref (rD 5), .ref (rD 6), .ref (rD 7), .ref (rD 8), .ref (rD 9), .ref (rD 10), .ref dru])), (rp, .inl (cI, 16, .inl fp))] sz)) 0 0 (va_A [(rd, .inr (8, [.ref dr, .ref tp, .int 0, .int 0])), (dr, .inr (2, [.int 0, .ref rp, .ref (rD 0), .ref (rD 1), .ref (rD 2), .ref (rD 3), .int 0, .ref (rD 4), .ref (rD 5), .ref (rD 6), .ref (rD 7), .ref (rD 8), .ref (rD 9), .ref (rD 10), .ref dru])), (rp, .inl (cI, 16, .inl fp))] sz) := by
  refine Met.ofW (cc := cX8_readRegisters) (maxL := 2) (ret := (some .boolean)) (by decide) rfl ?_
  intro p e s m args below meth c s₁ B hml hv
  obtain ⟨rfl, hsz, hP, hK, hD0⟩ := hv
  have hx := B.exec
  have hb := B.bytes
  have hr := B.returns
  have hgt := fun w (h : w ∈ GT) => atoms_spec (ws := wsX8_readRegisters) B.pre w (List.mem_cons_of_mem _ h)
  have hown : s.vm.findClass RX8 = some m.cls := findClass_of_methodNamed B.named
  have hlocks := B.notSynchronized
  subst hsz
  have hD := hD0.self (sz := s.heap.size)
  generalize hAe : va_A [(rd, .inr (8, [.ref dr, .ref tp, .int 0, .int 0])), (dr, .inr (2, [.int 0, .ref rp, .ref (rD 0), .ref (rD 1), .ref (rD 2), .ref (rD 3), .int 0, .ref (rD 4), .ref (rD 5), .ref (rD 6), .ref (rD 7), .ref (rD 8), .ref (rD 9), .ref (rD 10), .ref dru])), (rp, .inl (cI, 16, .inl fp))] s.heap.size = A at hD ⊢
  have hA : ∀ q : Nat, s.heap.size ≤ q → A q := fun q h => by rw [← hAe]; exact Or.inr h
  have hS : va_S A s.heap s.heap [] := va_S.rf
  have hP : va_P D vwCl [(rd, .inr (8, [.ref dr, .ref tp, .int 0, .int 0])), (dr, .inr (2, [.int 0, .ref rp, .ref (rD 0), .ref (rD 1), .ref (rD 2), .ref (rD 3), .int 0, .ref (rD 4), .ref (rD 5), .ref (rD 6), .ref (rD 7), .ref (rD 8), .ref (rD 9), .ref (rD 10), .ref dru])), (rp, .inl (cI, 16, .inl fp))] s.heap := hP
  have hl := lv_entry ([.ref rd]) (n := 2) (Nat.le_of_ble_eq_true rfl)
  rw [lg_entry_eq]
  generalize (lg_sl ([.ref rd]) ++ List.replicate (2 - (lg_sl ([.ref rd])).length) Slot.unset).toArray = ls at hl ⊢
  have hl : lv_has ls 2 [(0, .ref rd)] := hl
  refine lv_iconst (v := 0) hx hb dX8_readRegisters_0 (by decide) ?_
  refine lv_istore_n hx hb dX8_readRegisters_1 rfl hl (Nat.le_of_ble_eq_true rfl) (lv' := [(1, .int 0), (0, .ref rd)]) rfl (fun ls hl => ?_)
  refine lv_iload_n hx hb dX8_readRegisters_2 rfl (lv_at hl 0 rfl) ?_
  refine lv_bipush (v := 16) hx hb dX8_readRegisters_3 (by decide) ?_
  refine lv_icmp_ge hx hb dX8_readRegisters_5 (tgt := 50) rfl (fun h_5 => absurd h_5 (by decide)) (fun _ => ?_)
  refine lv_iload_n hx hb dX8_readRegisters_8 rfl (lv_at hl 0 rfl) ?_
  refine lv_if_le hx hb dX8_readRegisters_9 (tgt := 24) rfl (fun _ => ?_) (fun h_9 => absurd (by decide) h_9)
  refine lv_aload_n hx hb dX8_readRegisters_24 rfl (lv_at hl 1 rfl) ?_
  refine lv_iload_n hx hb dX8_readRegisters_25 rfl (lv_at hl 0 rfl) ?_
  have hPc := hP.sub (ws' := [(rd, .inr (8, [.ref dr, .ref tp, .int 0, .int 0])), (dr, .inr (2, [.int 0, .ref rp, .ref (rD 0), .ref (rD 1), .ref (rD 2), .ref (rD 3), .int 0, .ref (rD 4), .ref (rD 5), .ref (rD 6), .ref (rD 7), .ref (rD 8), .ref (rD 9), .ref (rD 10), .ref dru])), (rp, .inl (cI, 16, .inl fp))]) [0, 1, 2] rfl
  have hDc := hD.sub (ws' := [(rd, .inr (8, [.ref dr, .ref tp, .int 0, .int 0])), (dr, .inr (2, [.int 0, .ref rp, .ref (rD 0), .ref (rD 1), .ref (rD 2), .ref (rD 3), .int 0, .ref (rD 4), .ref (rD 5), .ref (rD 6), .ref (rD 7), .ref (rD 8), .ref (rD 9), .ref (rD 10), .ref dru])), (rp, .inl (cI, 16, .inl fp))]) [0, 1, 2] (by decide) rfl
  have hFc := va_free (wc := [(rd, .inr (8, [.ref dr, .ref tp, .int 0, .int 0])), (dr, .inr (2, [.int 0, .ref rp, .ref (rD 0), .ref (rD 1), .ref (rD 2), .ref (rD 3), .int 0, .ref (rD 4), .ref (rD 5), .ref (rD 6), .ref (rD 7), .ref (rD 8), .ref (rD 9), .ref (rD 10), .ref dru])), (rp, .inl (cI, 16, .inl fp))]) hD hS hA [0, 1, 2] rfl
  refine va_calli (va_runV (As := [.int 0]) (rest := []) ⟨hx, hb, hml, hown, hgt⟩ (x_readRegister l D cI cZ cC cJ rd dr tp rp dru rD fp s.heap.size) (cwV 1 hgt (gV wd_3_154 wd_3_156 sl__ChipMap_Reader____ChipMap_Reader___readRegister____I_Z_____ChipMap_Reader___readRegister____I_Z__ wd_0_4 wd_3_157) rfl rfl rfl (by decide +kernel) ⟨Nat.le_of_ble_eq_true rfl, Nat.le_of_ble_eq_true rfl⟩) ⟨fun a U g mk q => by obtain ⟨q0, q1, qP, qK, qD⟩ := q; exact ⟨q0, q1, qP, va_K.moved (u := U) (U := U.calling g mk a) (Vm.Alike.refl U.vm) qK, qD⟩, va_recv hK hP (ci := 8) (q0 := 0) rfl rfl, fun U hU hW => ⟨rfl, by rw [hU], by rw [hU]; exact hPc, va_K.moved hW.alike hK, hDc.weaken (fun _ _ _ _ => trivial)⟩⟩ rfl rfl hl.1 rfl (lv_room (Nat.le_of_ble_eq_true rfl)) dX8_readRegisters_26 ⟨Nat.le_of_ble_eq_true rfl, Nat.le_of_ble_eq_true rfl⟩) hS (fun q _ h => hFc q h) hFc (fun r u t H1 locs ht hvm hw hB hz1 hk1 hS => ?_)
  obtain ⟨hP1, hD1⟩ := hB
  rw [ht] at hP1
  obtain ⟨hP, hD⟩ := va_join (wr := []) (w1 := [(rd, .inr (8, [.ref dr, .ref tp, .int 0, .int 0])), (dr, .inr (2, [.int 0, .ref rp, .ref (rD 0), .ref (rD 1), .ref (rD 2), .ref (rD 3), .int 0, .ref (rD 4), .ref (rD 5), .ref (rD 6), .ref (rD 7), .ref (rD 8), .ref (rD 9), .ref (rD 10), .ref dru]))]) hP hD [0, 1, 2] [] rfl rfl (by decide) (by decide) hk1 hFc hP1 hD1
  generalize H1 = H at hP hS ⊢
  have hP : va_P D vwCl [(rd, .inr (8, [.ref dr, .ref tp, .int 0, .int 0])), (dr, .inr (2, [.int 0, .ref rp, .ref (rD 0), .ref (rD 1), .ref (rD 2), .ref (rD 3), .int 0, .ref (rD 4), .ref (rD 5), .ref (rD 6), .ref (rD 7), .ref (rD 8), .ref (rD 9), .ref (rD 10), .ref dru]))] H := hP
  have hD : va_D A [(rd, .inr (8, [.ref dr, .ref tp, .int 0, .int 0])), (dr, .inr (2, [.int 0, .ref rp, .ref (rD 0), .ref (rD 1), .ref (rD 2), .ref (rD 3), .int 0, .ref (rD 4), .ref (rD 5), .ref (rD 6), .ref (rD 7), .ref (rD 8), .ref (rD 9), .ref (rD 10), .ref dru]))] := hD
  obtain rfl : r = 0 := hw
  refine lv_if_ne hx hb dX8_readRegisters_29 (tgt := 34) rfl (fun h_29 => absurd (by decide) h_29) (fun _ => ?_)
  refine lv_iconst (v := 0) hx hb dX8_readRegisters_32 (by decide) ?_
  have hP9 := hP.sub (ws' := [(rd, .inr (8, [.ref dr, .ref tp, .int 0, .int 0])), (dr, .inr (2, [.int 0, .ref rp, .ref (rD 0), .ref (rD 1), .ref (rD 2), .ref (rD 3), .int 0, .ref (rD 4), .ref (rD 5), .ref (rD 6), .ref (rD 7), .ref (rD 8), .ref (rD 9), .ref (rD 10), .ref dru]))]) [0, 1] rfl
  have hD9 := hD.sub (ws' := [(rd, .inr (8, [.ref dr, .ref tp, .int 0, .int 0])), (dr, .inr (2, [.int 0, .ref rp, .ref (rD 0), .ref (rD 1), .ref (rD 2), .ref (rD 3), .int 0, .ref (rD 4), .ref (rD 5), .ref (rD 6), .ref (rD 7), .ref (rD 8), .ref (rD 9), .ref (rD 10), .ref dru]))]) [0, 1] (by decide) rfl
  refine W.widen (k := 0) (n := 0) (Nat.le_of_ble_eq_true rfl) (Nat.le_of_ble_eq_true rfl) ?_
  exact W.zret (v := 0) (ty := .boolean) hx hb hr (by decide) (fun t ht hW => ⟨⟨0, (), rfl, rfl, by rw [ht]; exact hP9, hD9⟩, hS.F ht⟩) hS.2.2 dX8_readRegisters_33
set_option maxHeartbeats 4000000 in
set_option maxRecDepth 100000 in
theorem x_readAll (l : Launch) (D : va_G) (cI cZ cC cJ : ClassId) (rd : Nat) (dr : Nat) (tp : Nat) (rp : Nat) (dru : Nat) (rD : Nat → Nat) (rU : Nat → Nat) (fp : Nat → Int32) (sz : Nat) : Met l yX8_readAll wsX8_readAll ({ frames := 4, cells := 0, slots := 0, locals := 84 }) (va_Pc [.ref rd] (fun U => U.heap.size = sz ∧ va_P D vwCl [(rd, .inr (8, [.ref dr, .ref tp, .int 0, .int 0])), (dr, .inr (2, [.int 0, .ref rp, .ref (rD 0), .ref (rD 1), .ref (rD 2), .ref (rD 3), .int 0, .ref (rD 4), .ref (rD 5), .ref (rD 6), .ref (rD 7), .ref (rD 8), .ref (rD 9), .ref (rD 10), .ref dru])), (dru, .inr (9, [.int 0, .ref (rU 0), .ref (rU 1), .ref (rU 2), .ref (rU 3), .ref (rU 4), .ref (rU 5)])), (rp, .inl (cI, 16, .inl fp))] U.heap ∧ va_K D vwCl [(cI, .int), (cZ, .boolean), (cC, .char), (cJ, .long)] U ∧ va_D (fun _ => True) [(rd, .inr (8, [.ref dr, .ref tp, .int 0, .int 0])), (dr, .inr (2, [.int 0, .ref rp, .ref (rD 0), .ref (rD 1), .ref (rD 2), .ref (rD 3), .int 0, .ref (rD 4), .ref (rD 5), .ref (rD 6), .ref (rD 7), .ref (rD 8), .ref (rD 9), .ref (rD 10), .ref dru])), (dru, .inr (9, [.int 0, .ref (rU 0), .ref (rU 1), .ref (rU 2), .ref (rU 3), .ref (rU 4), .ref (rU 5)])), (rp, .inl (cI, 16, .inl fp))])) (va_Qi (fun (r : Int32) (_ : Unit) => r = 0) (fun _ t => va_P D vwCl [(rd, .inr (8, [.ref dr, .ref tp, .int 0, .int 0])), (dr, .inr (2, [.int 0, .ref rp, .ref (rD 0), .ref (rD 1), .ref (rD 2), .ref (rD 3), .int 0, .ref (rD 4), .ref (rD 5), .ref (rD 6), .ref (rD 7), .ref (rD 8), .ref (rD 9), .ref (rD 10), .ref dru]))] t.heap ∧ va_D (va_A [(rd, .inr (8, [.ref dr, .ref tp, .int 0, .int 0])), (dr, .inr (2, [.int 0, .ref rp, .ref (rD 0), .ref (rD 1), .ref (rD 2), .ref (rD 3), .int 0, .ref (rD 4), .ref (rD 5), .ref (rD 6), .ref (rD 7), .ref (rD 8), .ref (rD 9), .ref (rD 10), .ref dru])), (dru, .inr (9, [.int 0, .ref (rU 0), .ref (rU 1), .ref (rU 2), .ref (rU 3), .ref (rU 4), .ref (rU 5)])), (rp, .inl (cI, 16, .inl fp))] sz) [(rd, .inr (8, [.ref dr, .ref tp, .int 0, .int 0])), (dr, .inr (2, [.int 0, .ref rp, .ref (rD 0), .ref (rD 1), .ref (rD 2), .ref (rD 3), .int 0, .ref (rD 4), .ref (rD 5), .ref (rD 6), .ref (rD 7), .ref (rD 8), .ref (rD 9), .ref (rD 10), .ref dru]))]) (va_A [(rd, .inr (8, [.ref dr, .ref tp, .int 0, .int 0])), (dr, .inr (2, [.int 0, .ref rp, .ref (rD 0), .ref (rD 1), .ref (rD 2), .ref (rD 3), .int 0, .ref (rD 4), .ref (rD 5), .ref (rD 6), .ref (rD 7), .ref (rD 8), .ref (rD 9), .ref (rD 10), .ref dru])), (dru, .inr (9, [.int 0, .ref (rU 0), .ref (rU 1), .ref (rU 2), .ref (rU 3), .ref (rU 4), .ref (rU 5)])), (rp, .inl (cI, 16, .inl fp))] sz)) 0 0 (va_A [(rd, .inr (8, [.ref dr, .ref tp, .int 0, .int 0])), (dr, .inr (2, [.int 0, .ref rp, .ref (rD 0), .ref (rD 1), .ref (rD 2), .ref (rD 3), .int 0, .ref (rD 4), .ref (rD 5), .ref (rD 6), .ref (rD 7), .ref (rD 8), .ref (rD 9), .ref (rD 10), .ref dru])), (dru, .inr (9, [.int 0, .ref (rU 0), .ref (rU 1), .ref (rU 2), .ref (rU 3), .ref (rU 4), .ref (rU 5)])), (rp, .inl (cI, 16, .inl fp))] sz) := by
  refine Met.ofW (cc := cX8_readAll) (maxL := 2) (ret := (some .boolean)) (by decide) rfl ?_
  intro p e s m args below meth c s₁ B hml hv
  obtain ⟨rfl, hsz, hP, hK, hD0⟩ := hv
  have hx := B.exec
  have hb := B.bytes
  have hr := B.returns
  have hgt := fun w (h : w ∈ GT) => atoms_spec (ws := wsX8_readAll) B.pre w (List.mem_cons_of_mem _ h)
  have hown : s.vm.findClass RX8 = some m.cls := findClass_of_methodNamed B.named
  have hlocks := B.notSynchronized
  subst hsz
  have hD := hD0.self (sz := s.heap.size)
  generalize hAe : va_A [(rd, .inr (8, [.ref dr, .ref tp, .int 0, .int 0])), (dr, .inr (2, [.int 0, .ref rp, .ref (rD 0), .ref (rD 1), .ref (rD 2), .ref (rD 3), .int 0, .ref (rD 4), .ref (rD 5), .ref (rD 6), .ref (rD 7), .ref (rD 8), .ref (rD 9), .ref (rD 10), .ref dru])), (dru, .inr (9, [.int 0, .ref (rU 0), .ref (rU 1), .ref (rU 2), .ref (rU 3), .ref (rU 4), .ref (rU 5)])), (rp, .inl (cI, 16, .inl fp))] s.heap.size = A at hD ⊢
  have hA : ∀ q : Nat, s.heap.size ≤ q → A q := fun q h => by rw [← hAe]; exact Or.inr h
  have hS : va_S A s.heap s.heap [] := va_S.rf
  have hP : va_P D vwCl [(rd, .inr (8, [.ref dr, .ref tp, .int 0, .int 0])), (dr, .inr (2, [.int 0, .ref rp, .ref (rD 0), .ref (rD 1), .ref (rD 2), .ref (rD 3), .int 0, .ref (rD 4), .ref (rD 5), .ref (rD 6), .ref (rD 7), .ref (rD 8), .ref (rD 9), .ref (rD 10), .ref dru])), (dru, .inr (9, [.int 0, .ref (rU 0), .ref (rU 1), .ref (rU 2), .ref (rU 3), .ref (rU 4), .ref (rU 5)])), (rp, .inl (cI, 16, .inl fp))] s.heap := hP
  have hl := lv_entry ([.ref rd]) (n := 2) (Nat.le_of_ble_eq_true rfl)
  rw [lg_entry_eq]
  generalize (lg_sl ([.ref rd]) ++ List.replicate (2 - (lg_sl ([.ref rd])).length) Slot.unset).toArray = ls at hl ⊢
  have hl : lv_has ls 2 [(0, .ref rd)] := hl
  refine lv_aload_n hx hb dX8_readAll_0 rfl (lv_at hl 0 rfl) ?_
  refine va_get (D := D) (ci := 8) (v := .ref dr) (C := RX8) (T := TX8) (N := 4) hx hb hgt iwX8 hown hK hP 0 rfl rfl 0 (Nat.le_of_ble_eq_true rfl) (hgt _ wd_0_187) (fun _ h9 => h9) rfl dX8_readAll_1 ?_
  have hPc := hP.sub (ws' := [(dr, .inr (2, [.int 0, .ref rp, .ref (rD 0), .ref (rD 1), .ref (rD 2), .ref (rD 3), .int 0, .ref (rD 4), .ref (rD 5), .ref (rD 6), .ref (rD 7), .ref (rD 8), .ref (rD 9), .ref (rD 10), .ref dru])), (dru, .inr (9, [.int 0, .ref (rU 0), .ref (rU 1), .ref (rU 2), .ref (rU 3), .ref (rU 4), .ref (rU 5)]))]) [1, 2] rfl
  have hDc := hD.sub (ws' := [(dr, .inr (2, [.int 0, .ref rp, .ref (rD 0), .ref (rD 1), .ref (rD 2), .ref (rD 3), .int 0, .ref (rD 4), .ref (rD 5), .ref (rD 6), .ref (rD 7), .ref (rD 8), .ref (rD 9), .ref (rD 10), .ref dru])), (dru, .inr (9, [.int 0, .ref (rU 0), .ref (rU 1), .ref (rU 2), .ref (rU 3), .ref (rU 4), .ref (rU 5)]))]) [1, 2] (by decide) rfl
  have hFc := va_free (wc := [(dr, .inr (2, [.int 0, .ref rp, .ref (rD 0), .ref (rD 1), .ref (rD 2), .ref (rD 3), .int 0, .ref (rD 4), .ref (rD 5), .ref (rD 6), .ref (rD 7), .ref (rD 8), .ref (rD 9), .ref (rD 10), .ref dru])), (dru, .inr (9, [.int 0, .ref (rU 0), .ref (rU 1), .ref (rU 2), .ref (rU 3), .ref (rU 4), .ref (rU 5)]))]) hD hS hA [1, 2] rfl
  refine va_callv (va_runV (As := []) (rest := []) ⟨hx, hb, hml, hown, hgt⟩ (x_clear l D cI cZ cC cJ dr rp dru rD rU s.heap.size) (cwV 0 hgt (gV wd_3_142 wd_3_143 wd_3_144 wd_0_2 wd_3_145) rfl rfl rfl (by decide +kernel) ⟨Nat.le_of_ble_eq_true rfl, Nat.le_of_ble_eq_true rfl⟩) ⟨fun a U g mk q => by obtain ⟨q0, q1, qP, qK, qD⟩ := q; exact ⟨q0, q1, qP, va_K.moved (u := U) (U := U.calling g mk a) (Vm.Alike.refl U.vm) qK, qD⟩, va_recv hK hP (ci := 2) (q0 := 1) rfl rfl, fun U hU hW => ⟨rfl, by rw [hU], by rw [hU]; exact hPc, va_K.moved hW.alike hK, hDc.weaken (fun _ _ _ _ => trivial)⟩⟩ rfl rfl hl.1 rfl (lv_room (Nat.le_of_ble_eq_true rfl)) dX8_readAll_4 ⟨Nat.le_of_ble_eq_true rfl, Nat.le_of_ble_eq_true rfl⟩) hS (fun q _ h => hFc q h) hFc (fun u t H1 locs ht hvm hw hB hz1 hk1 hS => ?_)
  obtain ⟨hP1, hD1⟩ := hB
  rw [ht] at hP1
  obtain ⟨hP, hD⟩ := va_join (wr := [(rd, .inr (8, [.ref dr, .ref tp, .int 0, .int 0])), (rp, .inl (cI, 16, .inl fp))]) (w1 := [(dr, .inr (2, [.int 0, .ref rp, .ref (rD 0), .ref (rD 1), .ref (rD 2), .ref (rD 3), .int 0, .ref (rD 4), .ref (rD 5), .ref (rD 6), .ref (rD 7), .ref (rD 8), .ref (rD 9), .ref (rD 10), .ref dru])), (dru, .inr (9, [.int 0, .ref (rU 0), .ref (rU 1), .ref (rU 2), .ref (rU 3), .ref (rU 4), .ref (rU 5)]))]) hP hD [1, 2] [0, 3] rfl rfl (by decide) (by decide) hk1 hFc hP1 hD1
  generalize H1 = H at hP hS ⊢
  have hP : va_P D vwCl [(rd, .inr (8, [.ref dr, .ref tp, .int 0, .int 0])), (rp, .inl (cI, 16, .inl fp)), (dr, .inr (2, [.int 0, .ref rp, .ref (rD 0), .ref (rD 1), .ref (rD 2), .ref (rD 3), .int 0, .ref (rD 4), .ref (rD 5), .ref (rD 6), .ref (rD 7), .ref (rD 8), .ref (rD 9), .ref (rD 10), .ref dru])), (dru, .inr (9, [.int 0, .ref (rU 0), .ref (rU 1), .ref (rU 2), .ref (rU 3), .ref (rU 4), .ref (rU 5)]))] H := hP
  have hD : va_D A [(rd, .inr (8, [.ref dr, .ref tp, .int 0, .int 0])), (rp, .inl (cI, 16, .inl fp)), (dr, .inr (2, [.int 0, .ref rp, .ref (rD 0), .ref (rD 1), .ref (rD 2), .ref (rD 3), .int 0, .ref (rD 4), .ref (rD 5), .ref (rD 6), .ref (rD 7), .ref (rD 8), .ref (rD 9), .ref (rD 10), .ref dru])), (dru, .inr (9, [.int 0, .ref (rU 0), .ref (rU 1), .ref (rU 2), .ref (rU 3), .ref (rU 4), .ref (rU 5)]))] := hD
  refine lv_aload_n hx hb dX8_readAll_7 rfl (lv_at hl 0 rfl) ?_
  refine lv_iconst (v := 0) hx hb dX8_readAll_8 (by decide) ?_
  refine va_put (D := D) (ci := 8) (v := .int 0) (ty := .int) (C := RX8) (T := TX8) (N := 4) hx hb hgt iwX8 tyX8 tyX8_ok nmX8 hown hK hP hD hS 0 rfl rfl 3 (Nat.le_of_ble_eq_true rfl) (hgt _ wd_0_191) (fun _ h9 => h9) rfl (by decide +kernel) rfl rfl (Nat.le_of_ble_eq_true rfl) dX8_readAll_9 (fun H locs hP hD hS => ?_)
  have hP : va_P D vwCl [(rd, .inr (8, [.ref dr, .ref tp, .int 0, .int 0])), (rp, .inl (cI, 16, .inl fp)), (dr, .inr (2, [.int 0, .ref rp, .ref (rD 0), .ref (rD 1), .ref (rD 2), .ref (rD 3), .int 0, .ref (rD 4), .ref (rD 5), .ref (rD 6), .ref (rD 7), .ref (rD 8), .ref (rD 9), .ref (rD 10), .ref dru])), (dru, .inr (9, [.int 0, .ref (rU 0), .ref (rU 1), .ref (rU 2), .ref (rU 3), .ref (rU 4), .ref (rU 5)]))] H := hP
  have hD : va_D A [(rd, .inr (8, [.ref dr, .ref tp, .int 0, .int 0])), (rp, .inl (cI, 16, .inl fp)), (dr, .inr (2, [.int 0, .ref rp, .ref (rD 0), .ref (rD 1), .ref (rD 2), .ref (rD 3), .int 0, .ref (rD 4), .ref (rD 5), .ref (rD 6), .ref (rD 7), .ref (rD 8), .ref (rD 9), .ref (rD 10), .ref dru])), (dru, .inr (9, [.int 0, .ref (rU 0), .ref (rU 1), .ref (rU 2), .ref (rU 3), .ref (rU 4), .ref (rU 5)]))] := hD
  refine lv_aload_n hx hb dX8_readAll_12 rfl (lv_at hl 0 rfl) ?_
  have hPc := hP.sub (ws' := [(rd, .inr (8, [.ref dr, .ref tp, .int 0, .int 0])), (dr, .inr (2, [.int 0, .ref rp, .ref (rD 0), .ref (rD 1), .ref (rD 2), .ref (rD 3), .int 0, .ref (rD 4), .ref (rD 5), .ref (rD 6), .ref (rD 7), .ref (rD 8), .ref (rD 9), .ref (rD 10), .ref dru])), (rp, .inl (cI, 16, .inl fp))]) [0, 2, 1] rfl
  have hDc := hD.sub (ws' := [(rd, .inr (8, [.ref dr, .ref tp, .int 0, .int 0])), (dr, .inr (2, [.int 0, .ref rp, .ref (rD 0), .ref (rD 1), .ref (rD 2), .ref (rD 3), .int 0, .ref (rD 4), .ref (rD 5), .ref (rD 6), .ref (rD 7), .ref (rD 8), .ref (rD 9), .ref (rD 10), .ref dru])), (rp, .inl (cI, 16, .inl fp))]) [0, 2, 1] (by decide) rfl
  have hFc := va_free (wc := [(rd, .inr (8, [.ref dr, .ref tp, .int 0, .int 0])), (dr, .inr (2, [.int 0, .ref rp, .ref (rD 0), .ref (rD 1), .ref (rD 2), .ref (rD 3), .int 0, .ref (rD 4), .ref (rD 5), .ref (rD 6), .ref (rD 7), .ref (rD 8), .ref (rD 9), .ref (rD 10), .ref dru])), (rp, .inl (cI, 16, .inl fp))]) hD hS hA [0, 2, 1] rfl
  refine va_calli (va_runV (As := []) (rest := []) ⟨hx, hb, hml, hown, hgt⟩ (x_readRegisters l D cI cZ cC cJ rd dr tp rp dru rD fp H.size) (cwV 0 hgt (gV wd_3_146 wd_3_148 sl__ChipMap_Reader____ChipMap_Reader___readRegisters_____Z_____ChipMap_Reader___readRegisters_____Z__ wd_0_4 wd_3_149) rfl rfl rfl (by decide +kernel) ⟨Nat.le_of_ble_eq_true rfl, Nat.le_of_ble_eq_true rfl⟩) ⟨fun a U g mk q => by obtain ⟨q0, q1, qP, qK, qD⟩ := q; exact ⟨q0, q1, qP, va_K.moved (u := U) (U := U.calling g mk a) (Vm.Alike.refl U.vm) qK, qD⟩, va_recv hK hP (ci := 8) (q0 := 0) rfl rfl, fun U hU hW => ⟨rfl, by rw [hU], by rw [hU]; exact hPc, va_K.moved hW.alike hK, hDc.weaken (fun _ _ _ _ => trivial)⟩⟩ rfl rfl hl.1 rfl (lv_room (Nat.le_of_ble_eq_true rfl)) dX8_readAll_13 ⟨Nat.le_of_ble_eq_true rfl, Nat.le_of_ble_eq_true rfl⟩) hS (fun q _ h => hFc q h) hFc (fun r u t H1 locs ht hvm hw hB hz1 hk1 hS => ?_)
  obtain ⟨hP1, hD1⟩ := hB
  rw [ht] at hP1
  obtain ⟨hP, hD⟩ := va_join (wr := [(dru, .inr (9, [.int 0, .ref (rU 0), .ref (rU 1), .ref (rU 2), .ref (rU 3), .ref (rU 4), .ref (rU 5)]))]) (w1 := [(rd, .inr (8, [.ref dr, .ref tp, .int 0, .int 0])), (dr, .inr (2, [.int 0, .ref rp, .ref (rD 0), .ref (rD 1), .ref (rD 2), .ref (rD 3), .int 0, .ref (rD 4), .ref (rD 5), .ref (rD 6), .ref (rD 7), .ref (rD 8), .ref (rD 9), .ref (rD 10), .ref dru]))]) hP hD [0, 2, 1] [3] rfl rfl (by decide) (by decide) hk1 hFc hP1 hD1
  generalize H1 = H at hP hS ⊢
  have hP : va_P D vwCl [(dru, .inr (9, [.int 0, .ref (rU 0), .ref (rU 1), .ref (rU 2), .ref (rU 3), .ref (rU 4), .ref (rU 5)])), (rd, .inr (8, [.ref dr, .ref tp, .int 0, .int 0])), (dr, .inr (2, [.int 0, .ref rp, .ref (rD 0), .ref (rD 1), .ref (rD 2), .ref (rD 3), .int 0, .ref (rD 4), .ref (rD 5), .ref (rD 6), .ref (rD 7), .ref (rD 8), .ref (rD 9), .ref (rD 10), .ref dru]))] H := hP
  have hD : va_D A [(dru, .inr (9, [.int 0, .ref (rU 0), .ref (rU 1), .ref (rU 2), .ref (rU 3), .ref (rU 4), .ref (rU 5)])), (rd, .inr (8, [.ref dr, .ref tp, .int 0, .int 0])), (dr, .inr (2, [.int 0, .ref rp, .ref (rD 0), .ref (rD 1), .ref (rD 2), .ref (rD 3), .int 0, .ref (rD 4), .ref (rD 5), .ref (rD 6), .ref (rD 7), .ref (rD 8), .ref (rD 9), .ref (rD 10), .ref dru]))] := hD
  obtain rfl : r = 0 := hw
  refine lv_if_eq hx hb dX8_readAll_16 (tgt := 41) rfl (fun _ => ?_) (fun h_16 => absurd (by decide) h_16)
  refine lv_iconst (v := 0) hx hb dX8_readAll_41 (by decide) ?_
  refine lv_istore_n hx hb dX8_readAll_42 rfl hl (Nat.le_of_ble_eq_true rfl) (lv' := [(1, .int 0), (0, .ref rd)]) rfl (fun ls hl => ?_)
  refine lv_aload_n hx hb dX8_readAll_43 rfl (lv_at hl 1 rfl) ?_
  refine lv_iconst (v := 0) hx hb dX8_readAll_44 (by decide) ?_
  refine va_put (D := D) (ci := 8) (v := .int 0) (ty := .int) (C := RX8) (T := TX8) (N := 4) hx hb hgt iwX8 tyX8 tyX8_ok nmX8 hown hK hP hD hS 1 rfl rfl 2 (Nat.le_of_ble_eq_true rfl) (hgt _ wd_0_189) (fun _ h9 => h9) rfl (by decide +kernel) rfl rfl (Nat.le_of_ble_eq_true rfl) dX8_readAll_45 (fun H locs hP hD hS => ?_)
  have hP : va_P D vwCl [(dru, .inr (9, [.int 0, .ref (rU 0), .ref (rU 1), .ref (rU 2), .ref (rU 3), .ref (rU 4), .ref (rU 5)])), (rd, .inr (8, [.ref dr, .ref tp, .int 0, .int 0])), (dr, .inr (2, [.int 0, .ref rp, .ref (rD 0), .ref (rD 1), .ref (rD 2), .ref (rD 3), .int 0, .ref (rD 4), .ref (rD 5), .ref (rD 6), .ref (rD 7), .ref (rD 8), .ref (rD 9), .ref (rD 10), .ref dru]))] H := hP
  have hD : va_D A [(dru, .inr (9, [.int 0, .ref (rU 0), .ref (rU 1), .ref (rU 2), .ref (rU 3), .ref (rU 4), .ref (rU 5)])), (rd, .inr (8, [.ref dr, .ref tp, .int 0, .int 0])), (dr, .inr (2, [.int 0, .ref rp, .ref (rD 0), .ref (rD 1), .ref (rD 2), .ref (rD 3), .int 0, .ref (rD 4), .ref (rD 5), .ref (rD 6), .ref (rD 7), .ref (rD 8), .ref (rD 9), .ref (rD 10), .ref dru]))] := hD
  refine lv_iload_n hx hb dX8_readAll_48 rfl (lv_at hl 0 rfl) ?_
  have hP9 := hP.sub (ws' := [(rd, .inr (8, [.ref dr, .ref tp, .int 0, .int 0])), (dr, .inr (2, [.int 0, .ref rp, .ref (rD 0), .ref (rD 1), .ref (rD 2), .ref (rD 3), .int 0, .ref (rD 4), .ref (rD 5), .ref (rD 6), .ref (rD 7), .ref (rD 8), .ref (rD 9), .ref (rD 10), .ref dru]))]) [1, 2] rfl
  have hD9 := hD.sub (ws' := [(rd, .inr (8, [.ref dr, .ref tp, .int 0, .int 0])), (dr, .inr (2, [.int 0, .ref rp, .ref (rD 0), .ref (rD 1), .ref (rD 2), .ref (rD 3), .int 0, .ref (rD 4), .ref (rD 5), .ref (rD 6), .ref (rD 7), .ref (rD 8), .ref (rD 9), .ref (rD 10), .ref dru]))]) [1, 2] (by decide) rfl
  refine W.widen (k := 0) (n := 0) (Nat.le_of_ble_eq_true rfl) (Nat.le_of_ble_eq_true rfl) ?_
  exact W.zret (v := 0) (ty := .boolean) hx hb hr (by decide) (fun t ht hW => ⟨⟨0, (), rfl, rfl, by rw [ht]; exact hP9, hD9⟩, hS.F ht⟩) hS.2.2 dX8_readAll_49
set_option maxHeartbeats 4000000 in
set_option maxRecDepth 100000 in
theorem x_decide (l : Launch) (D : va_G) (cI cZ cC cJ : ClassId) (jd : Nat) (dr : Nat) (sz : Nat) : Met l yX3_decide wsX3_decide ({ frames := 0, cells := 0, slots := 0, locals := 0 }) (va_Pc [.ref jd, .int 0, .int 0] (fun U => U.heap.size = sz ∧ va_P D vwCl [(jd, .inr (3, [.ref dr, .int 0, .int 0]))] U.heap ∧ va_K D vwCl [(cI, .int), (cZ, .boolean), (cC, .char), (cJ, .long)] U ∧ va_D (fun _ => True) [(jd, .inr (3, [.ref dr, .int 0, .int 0]))])) (va_Qv (fun (_ : Unit) => True) (fun _ t => va_P D vwCl [(jd, .inr (3, [.ref dr, .int 1, .int 0]))] t.heap ∧ va_D (va_A [(jd, .inr (3, [.ref dr, .int 0, .int 0]))] sz) [(jd, .inr (3, [.ref dr, .int 1, .int 0]))]) (va_A [(jd, .inr (3, [.ref dr, .int 0, .int 0]))] sz)) 0 0 (va_A [(jd, .inr (3, [.ref dr, .int 0, .int 0]))] sz) := by
  refine Met.ofW (cc := cX3_decide) (maxL := 3) (ret := none) (by decide) rfl ?_
  intro p e s m args below meth c s₁ B hml hv
  obtain ⟨rfl, hsz, hP, hK, hD0⟩ := hv
  have hx := B.exec
  have hb := B.bytes
  have hr := B.returns
  have hgt := fun w (h : w ∈ GT) => atoms_spec (ws := wsX3_decide) B.pre w (List.mem_cons_of_mem _ h)
  have hown : s.vm.findClass RX3 = some m.cls := findClass_of_methodNamed B.named
  have hlocks := B.notSynchronized
  subst hsz
  have hD := hD0.self (sz := s.heap.size)
  generalize hAe : va_A [(jd, .inr (3, [.ref dr, .int 0, .int 0]))] s.heap.size = A at hD ⊢
  have hA : ∀ q : Nat, s.heap.size ≤ q → A q := fun q h => by rw [← hAe]; exact Or.inr h
  have hS : va_S A s.heap s.heap [] := va_S.rf
  have hP : va_P D vwCl [(jd, .inr (3, [.ref dr, .int 0, .int 0]))] s.heap := hP
  have hl := lv_entry ([.ref jd, .int 0, .int 0]) (n := 3) (Nat.le_of_ble_eq_true rfl)
  rw [lg_entry_eq]
  generalize (lg_sl ([.ref jd, .int 0, .int 0]) ++ List.replicate (3 - (lg_sl ([.ref jd, .int 0, .int 0])).length) Slot.unset).toArray = ls at hl ⊢
  have hl : lv_has ls 3 [(0, .ref jd), (1, .int 0), (2, .int 0)] := hl
  refine lv_iload_n hx hb dX3_decide_0 rfl (lv_at hl 1 rfl) ?_
  refine lv_if_ne hx hb dX3_decide_1 (tgt := 15) rfl (fun h_1 => absurd (by decide) h_1) (fun _ => ?_)
  refine lv_aload_n hx hb dX3_decide_4 rfl (lv_at hl 0 rfl) ?_
  refine lv_iconst (v := 1) hx hb dX3_decide_5 (by decide) ?_
  refine va_put (D := D) (ci := 3) (v := .int 1) (ty := .int) (C := RX3) (T := TX3) (N := 3) hx hb hgt iwX3 tyX3 tyX3_ok nmX3 hown hK hP hD hS 0 rfl rfl 1 (Nat.le_of_ble_eq_true rfl) (hgt _ wd_0_209) (fun _ h9 => h9) rfl (by decide +kernel) rfl rfl (Nat.le_of_ble_eq_true rfl) dX3_decide_6 (fun H locs hP hD hS => ?_)
  have hP : va_P D vwCl [(jd, .inr (3, [.ref dr, .int 1, .int 0]))] H := hP
  have hD : va_D A [(jd, .inr (3, [.ref dr, .int 1, .int 0]))] := hD
  refine lv_aload_n hx hb dX3_decide_9 rfl (lv_at hl 0 rfl) ?_
  refine lv_iload_n hx hb dX3_decide_10 rfl (lv_at hl 2 rfl) ?_
  refine va_put (D := D) (ci := 3) (v := .int 0) (ty := .int) (C := RX3) (T := TX3) (N := 3) hx hb hgt iwX3 tyX3 tyX3_ok nmX3 hown hK hP hD hS 0 rfl rfl 2 (Nat.le_of_ble_eq_true rfl) (hgt _ wd_0_211) (fun _ h9 => h9) rfl (by decide +kernel) rfl rfl (Nat.le_of_ble_eq_true rfl) dX3_decide_11 (fun H locs hP hD hS => ?_)
  have hP : va_P D vwCl [(jd, .inr (3, [.ref dr, .int 1, .int 0]))] H := hP
  have hD : va_D A [(jd, .inr (3, [.ref dr, .int 1, .int 0]))] := hD
  have hP9 := hP.sub (ws' := [(jd, .inr (3, [.ref dr, .int 1, .int 0]))]) [0] rfl
  have hD9 := hD.sub (ws' := [(jd, .inr (3, [.ref dr, .int 1, .int 0]))]) [0] (by decide) rfl
  refine W.widen (k := 0) (n := 0) (Nat.le_of_ble_eq_true rfl) (Nat.le_of_ble_eq_true rfl) ?_
  exact W.vret hx hb hr (fun t ht hW => ⟨⟨(), rfl, trivial, by rw [ht]; exact hP9, hD9⟩, hS.F ht⟩) hS.2.2 dX3_decide_14
set_option maxHeartbeats 4000000 in
set_option maxRecDepth 100000 in
theorem x_copy (l : Launch) (D : va_G) (cI cZ cC cJ : ClassId) (pm : Nat) (dm : Nat) (pk : Nat) (dk : Nat) (ly : Nat) (fp : Nat → Int32) (fd : Nat → Int32) (sz : Nat) : Met l yX6_copy wsX6_copy ({ frames := 1, cells := 0, slots := 0, locals := 64 }) (va_Pc [.ref pm, .ref dm] (fun U => U.heap.size = sz ∧ va_P D vwCl [(pm, .inr (6, [.ref ly, .ref pk, .int 0])), (dm, .inr (6, [.ref ly, .ref dk, .int 0])), (pk, .inl (cI, 16, .inl fp)), (dk, .inl (cI, 16, .inl fd))] U.heap ∧ va_K D vwCl [(cI, .int), (cZ, .boolean), (cC, .char), (cJ, .long)] U ∧ va_D (fun _ => True) [(pm, .inr (6, [.ref ly, .ref pk, .int 0])), (dm, .inr (6, [.ref ly, .ref dk, .int 0])), (pk, .inl (cI, 16, .inl fp)), (dk, .inl (cI, 16, .inl fd))])) (va_Qv (fun (_ : Unit) => True) (fun _ t => va_P D vwCl [(pm, .inr (6, [.ref ly, .ref pk, .int 0]))] t.heap ∧ va_D (va_A [(pm, .inr (6, [.ref ly, .ref pk, .int 0])), (dm, .inr (6, [.ref ly, .ref dk, .int 0])), (pk, .inl (cI, 16, .inl fp)), (dk, .inl (cI, 16, .inl fd))] sz) [(pm, .inr (6, [.ref ly, .ref pk, .int 0]))]) (va_A [(pm, .inr (6, [.ref ly, .ref pk, .int 0])), (dm, .inr (6, [.ref ly, .ref dk, .int 0])), (pk, .inl (cI, 16, .inl fp)), (dk, .inl (cI, 16, .inl fd))] sz)) 0 0 (va_A [(pm, .inr (6, [.ref ly, .ref pk, .int 0])), (dm, .inr (6, [.ref ly, .ref dk, .int 0])), (pk, .inl (cI, 16, .inl fp)), (dk, .inl (cI, 16, .inl fd))] sz) := by
  refine Met.ofW (cc := cX6_copy) (maxL := 2) (ret := none) (by decide) rfl ?_
  intro p e s m args below meth c s₁ B hml hv
  obtain ⟨rfl, hsz, hP, hK, hD0⟩ := hv
  have hx := B.exec
  have hb := B.bytes
  have hr := B.returns
  have hgt := fun w (h : w ∈ GT) => atoms_spec (ws := wsX6_copy) B.pre w (List.mem_cons_of_mem _ h)
  have hown : s.vm.findClass RX6 = some m.cls := findClass_of_methodNamed B.named
  have hlocks := B.notSynchronized
  subst hsz
  have hD := hD0.self (sz := s.heap.size)
  generalize hAe : va_A [(pm, .inr (6, [.ref ly, .ref pk, .int 0])), (dm, .inr (6, [.ref ly, .ref dk, .int 0])), (pk, .inl (cI, 16, .inl fp)), (dk, .inl (cI, 16, .inl fd))] s.heap.size = A at hD ⊢
  have hA : ∀ q : Nat, s.heap.size ≤ q → A q := fun q h => by rw [← hAe]; exact Or.inr h
  have hS : va_S A s.heap s.heap [] := va_S.rf
  have hP : va_P D vwCl [(pm, .inr (6, [.ref ly, .ref pk, .int 0])), (dm, .inr (6, [.ref ly, .ref dk, .int 0])), (pk, .inl (cI, 16, .inl fp)), (dk, .inl (cI, 16, .inl fd))] s.heap := hP
  have hl := lv_entry ([.ref pm, .ref dm]) (n := 2) (Nat.le_of_ble_eq_true rfl)
  rw [lg_entry_eq]
  generalize (lg_sl ([.ref pm, .ref dm]) ++ List.replicate (2 - (lg_sl ([.ref pm, .ref dm])).length) Slot.unset).toArray = ls at hl ⊢
  have hl : lv_has ls 2 [(0, .ref pm), (1, .ref dm)] := hl
  refine lv_aload_n hx hb dX6_copy_0 rfl (lv_at hl 1 rfl) ?_
  refine va_get (D := D) (ci := 6) (v := .ref dk) (C := RX6) (T := TX6) (N := 3) hx hb hgt iwX6 hown hK hP 1 rfl rfl 1 (Nat.le_of_ble_eq_true rfl) (hgt _ wd_1_113) (fun _ h9 => h9) rfl dX6_copy_1 ?_
  refine lv_iconst (v := 0) hx hb dX6_copy_4 (by decide) ?_
  refine lv_aload_n hx hb dX6_copy_5 rfl (lv_at hl 0 rfl) ?_
  refine va_get (D := D) (ci := 6) (v := .ref pk) (C := RX6) (T := TX6) (N := 3) hx hb hgt iwX6 hown hK hP 0 rfl rfl 1 (Nat.le_of_ble_eq_true rfl) (hgt _ wd_1_113) (fun _ h9 => h9) rfl dX6_copy_6 ?_
  refine lv_iconst (v := 0) hx hb dX6_copy_9 (by decide) ?_
  refine lv_bipush (v := 16) hx hb dX6_copy_10 (by decide) ?_
  refine va_copyi hx hb (hml.trans hl.1.symm) hown (hgt _ wd_2_192) (hgt _ wd_2_194) (hgt _ wd_2_193) (hgt _ wd_0_25) hK hP hD hS 3 2 0 0 rfl rfl rfl rfl rfl (by decide) (by decide) (by decide) (by decide) (by decide) (fun _ _ => rfl) (Nat.le_of_ble_eq_true rfl) (by decide) dX6_copy_12 (fun H locs hP hD hS => ?_)
  have hP : va_P D vwCl [(pm, .inr (6, [.ref ly, .ref pk, .int 0])), (dm, .inr (6, [.ref ly, .ref dk, .int 0])), (pk, .inl (cI, 16, .inl (va_cpy fd fp (0 : Int32).toNatClampNeg (0 : Int32).toNatClampNeg (16 : Int32).toNatClampNeg))), (dk, .inl (cI, 16, .inl fd))] H := hP
  have hD : va_D A [(pm, .inr (6, [.ref ly, .ref pk, .int 0])), (dm, .inr (6, [.ref ly, .ref dk, .int 0])), (pk, .inl (cI, 16, .inl (va_cpy fd fp (0 : Int32).toNatClampNeg (0 : Int32).toNatClampNeg (16 : Int32).toNatClampNeg))), (dk, .inl (cI, 16, .inl fd))] := hD
  refine lv_aload_n hx hb dX6_copy_15 rfl (lv_at hl 0 rfl) ?_
  refine lv_aload_n hx hb dX6_copy_16 rfl (lv_at hl 1 rfl) ?_
  refine va_get (D := D) (ci := 6) (v := .int 0) (C := RX6) (T := TX6) (N := 3) hx hb hgt iwX6 hown hK hP 1 rfl rfl 2 (Nat.le_of_ble_eq_true rfl) (hgt _ wd_1_117) (fun _ h9 => h9) rfl dX6_copy_17 ?_
  refine va_put (D := D) (ci := 6) (v := .int 0) (ty := .int) (C := RX6) (T := TX6) (N := 3) hx hb hgt iwX6 tyX6 tyX6_ok nmX6 hown hK hP hD hS 0 rfl rfl 2 (Nat.le_of_ble_eq_true rfl) (hgt _ wd_1_117) (fun _ h9 => h9) rfl (by decide +kernel) rfl rfl (Nat.le_of_ble_eq_true rfl) dX6_copy_20 (fun H locs hP hD hS => ?_)
  have hP : va_P D vwCl [(pm, .inr (6, [.ref ly, .ref pk, .int 0])), (dm, .inr (6, [.ref ly, .ref dk, .int 0])), (pk, .inl (cI, 16, .inl (va_cpy fd fp (0 : Int32).toNatClampNeg (0 : Int32).toNatClampNeg (16 : Int32).toNatClampNeg))), (dk, .inl (cI, 16, .inl fd))] H := hP
  have hD : va_D A [(pm, .inr (6, [.ref ly, .ref pk, .int 0])), (dm, .inr (6, [.ref ly, .ref dk, .int 0])), (pk, .inl (cI, 16, .inl (va_cpy fd fp (0 : Int32).toNatClampNeg (0 : Int32).toNatClampNeg (16 : Int32).toNatClampNeg))), (dk, .inl (cI, 16, .inl fd))] := hD
  have hP9 := hP.sub (ws' := [(pm, .inr (6, [.ref ly, .ref pk, .int 0]))]) [0] rfl
  have hD9 := hD.sub (ws' := [(pm, .inr (6, [.ref ly, .ref pk, .int 0]))]) [0] (by decide) rfl
  refine W.widen (k := 0) (n := 0) (Nat.le_of_ble_eq_true rfl) (Nat.le_of_ble_eq_true rfl) ?_
  exact W.vret hx hb hr (fun t ht hW => ⟨⟨(), rfl, trivial, by rw [ht]; exact hP9, hD9⟩, hS.F ht⟩) hS.2.2 dX6_copy_23
set_option maxHeartbeats 4000000 in
set_option maxRecDepth 100000 in
theorem x_beginHere (l : Launch) (D : va_G) (cI cZ cC cJ : ClassId) (pl : Nat) (ly : Nat) (pm : Nat) (rP : Nat → Nat) (sz : Nat) : Met l yX7_beginHere wsX7_beginHere ({ frames := 0, cells := 0, slots := 0, locals := 0 }) (va_Pc [.ref pl] (fun U => U.heap.size = sz ∧ va_P D vwCl [(pl, .inr (7, [.ref ly, .ref pm, .int 0, .ref (rP 0), .ref (rP 1), .int 0]))] U.heap ∧ va_K D vwCl [(cI, .int), (cZ, .boolean), (cC, .char), (cJ, .long)] U ∧ va_D (fun _ => True) [(pl, .inr (7, [.ref ly, .ref pm, .int 0, .ref (rP 0), .ref (rP 1), .int 0]))])) (va_Qv (fun (_ : Unit) => True) (fun _ t => va_P D vwCl [(pl, .inr (7, [.ref ly, .ref pm, .int 0, .ref (rP 0), .ref (rP 1), .int 0]))] t.heap ∧ va_D (va_A [(pl, .inr (7, [.ref ly, .ref pm, .int 0, .ref (rP 0), .ref (rP 1), .int 0]))] sz) [(pl, .inr (7, [.ref ly, .ref pm, .int 0, .ref (rP 0), .ref (rP 1), .int 0]))]) (va_A [(pl, .inr (7, [.ref ly, .ref pm, .int 0, .ref (rP 0), .ref (rP 1), .int 0]))] sz)) 0 0 (va_A [(pl, .inr (7, [.ref ly, .ref pm, .int 0, .ref (rP 0), .ref (rP 1), .int 0]))] sz) := by
  refine Met.ofW (cc := cX7_beginHere) (maxL := 1) (ret := none) (by decide) rfl ?_
  intro p e s m args below meth c s₁ B hml hv
  obtain ⟨rfl, hsz, hP, hK, hD0⟩ := hv
  have hx := B.exec
  have hb := B.bytes
  have hr := B.returns
  have hgt := fun w (h : w ∈ GT) => atoms_spec (ws := wsX7_beginHere) B.pre w (List.mem_cons_of_mem _ h)
  have hown : s.vm.findClass RX7 = some m.cls := findClass_of_methodNamed B.named
  have hlocks := B.notSynchronized
  subst hsz
  have hD := hD0.self (sz := s.heap.size)
  generalize hAe : va_A [(pl, .inr (7, [.ref ly, .ref pm, .int 0, .ref (rP 0), .ref (rP 1), .int 0]))] s.heap.size = A at hD ⊢
  have hA : ∀ q : Nat, s.heap.size ≤ q → A q := fun q h => by rw [← hAe]; exact Or.inr h
  have hS : va_S A s.heap s.heap [] := va_S.rf
  have hP : va_P D vwCl [(pl, .inr (7, [.ref ly, .ref pm, .int 0, .ref (rP 0), .ref (rP 1), .int 0]))] s.heap := hP
  have hl := lv_entry ([.ref pl]) (n := 1) (Nat.le_of_ble_eq_true rfl)
  rw [lg_entry_eq]
  generalize (lg_sl ([.ref pl]) ++ List.replicate (1 - (lg_sl ([.ref pl])).length) Slot.unset).toArray = ls at hl ⊢
  have hl : lv_has ls 1 [(0, .ref pl)] := hl
  refine lv_aload_n hx hb dX7_beginHere_0 rfl (lv_at hl 0 rfl) ?_
  refine lv_iconst (v := 0) hx hb dX7_beginHere_1 (by decide) ?_
  refine va_put (D := D) (ci := 7) (v := .int 0) (ty := .int) (C := RX7) (T := TX7) (N := 6) hx hb hgt iwX7 tyX7 tyX7_ok nmX7 hown hK hP hD hS 0 rfl rfl 2 (Nat.le_of_ble_eq_true rfl) (hgt _ wd_1_163) (fun _ h9 => h9) rfl (by decide +kernel) rfl rfl (Nat.le_of_ble_eq_true rfl) dX7_beginHere_2 (fun H locs hP hD hS => ?_)
  have hP : va_P D vwCl [(pl, .inr (7, [.ref ly, .ref pm, .int 0, .ref (rP 0), .ref (rP 1), .int 0]))] H := hP
  have hD : va_D A [(pl, .inr (7, [.ref ly, .ref pm, .int 0, .ref (rP 0), .ref (rP 1), .int 0]))] := hD
  refine lv_aload_n hx hb dX7_beginHere_5 rfl (lv_at hl 0 rfl) ?_
  refine lv_iconst (v := 0) hx hb dX7_beginHere_6 (by decide) ?_
  refine va_put (D := D) (ci := 7) (v := .int 0) (ty := .int) (C := RX7) (T := TX7) (N := 6) hx hb hgt iwX7 tyX7 tyX7_ok nmX7 hown hK hP hD hS 0 rfl rfl 5 (Nat.le_of_ble_eq_true rfl) (hgt _ wd_1_169) (fun _ h9 => h9) rfl (by decide +kernel) rfl rfl (Nat.le_of_ble_eq_true rfl) dX7_beginHere_7 (fun H locs hP hD hS => ?_)
  have hP : va_P D vwCl [(pl, .inr (7, [.ref ly, .ref pm, .int 0, .ref (rP 0), .ref (rP 1), .int 0]))] H := hP
  have hD : va_D A [(pl, .inr (7, [.ref ly, .ref pm, .int 0, .ref (rP 0), .ref (rP 1), .int 0]))] := hD
  have hP9 := hP.sub (ws' := [(pl, .inr (7, [.ref ly, .ref pm, .int 0, .ref (rP 0), .ref (rP 1), .int 0]))]) [0] rfl
  have hD9 := hD.sub (ws' := [(pl, .inr (7, [.ref ly, .ref pm, .int 0, .ref (rP 0), .ref (rP 1), .int 0]))]) [0] (by decide) rfl
  refine W.widen (k := 0) (n := 0) (Nat.le_of_ble_eq_true rfl) (Nat.le_of_ble_eq_true rfl) ?_
  exact W.vret hx hb hr (fun t ht hW => ⟨⟨(), rfl, trivial, by rw [ht]; exact hP9, hD9⟩, hS.F ht⟩) hS.2.2 dX7_beginHere_10
set_option maxHeartbeats 4000000 in
set_option maxRecDepth 100000 in
theorem x_begin (l : Launch) (D : va_G) (cI cZ cC cJ : ClassId) (pl : Nat) (ly : Nat) (pm : Nat) (rP : Nat → Nat) (dm : Nat) (pk : Nat) (dk : Nat) (fp : Nat → Int32) (fd : Nat → Int32) (sz : Nat) : Met l yX7_begin wsX7_begin ({ frames := 2, cells := 0, slots := 0, locals := 85 }) (va_Pc [.ref pl, .ref dm] (fun U => U.heap.size = sz ∧ va_P D vwCl [(pl, .inr (7, [.ref ly, .ref pm, .int 0, .ref (rP 0), .ref (rP 1), .int 0])), (pm, .inr (6, [.ref ly, .ref pk, .int 0])), (dm, .inr (6, [.ref ly, .ref dk, .int 0])), (pk, .inl (cI, 16, .inl fp)), (dk, .inl (cI, 16, .inl fd))] U.heap ∧ va_K D vwCl [(cI, .int), (cZ, .boolean), (cC, .char), (cJ, .long)] U ∧ va_D (fun _ => True) [(pl, .inr (7, [.ref ly, .ref pm, .int 0, .ref (rP 0), .ref (rP 1), .int 0])), (pm, .inr (6, [.ref ly, .ref pk, .int 0])), (dm, .inr (6, [.ref ly, .ref dk, .int 0])), (pk, .inl (cI, 16, .inl fp)), (dk, .inl (cI, 16, .inl fd))])) (va_Qv (fun (_ : Unit) => True) (fun _ t => va_P D vwCl [(pl, .inr (7, [.ref ly, .ref pm, .int 0, .ref (rP 0), .ref (rP 1), .int 0]))] t.heap ∧ va_D (va_A [(pl, .inr (7, [.ref ly, .ref pm, .int 0, .ref (rP 0), .ref (rP 1), .int 0])), (pm, .inr (6, [.ref ly, .ref pk, .int 0])), (dm, .inr (6, [.ref ly, .ref dk, .int 0])), (pk, .inl (cI, 16, .inl fp)), (dk, .inl (cI, 16, .inl fd))] sz) [(pl, .inr (7, [.ref ly, .ref pm, .int 0, .ref (rP 0), .ref (rP 1), .int 0]))]) (va_A [(pl, .inr (7, [.ref ly, .ref pm, .int 0, .ref (rP 0), .ref (rP 1), .int 0])), (pm, .inr (6, [.ref ly, .ref pk, .int 0])), (dm, .inr (6, [.ref ly, .ref dk, .int 0])), (pk, .inl (cI, 16, .inl fp)), (dk, .inl (cI, 16, .inl fd))] sz)) 0 0 (va_A [(pl, .inr (7, [.ref ly, .ref pm, .int 0, .ref (rP 0), .ref (rP 1), .int 0])), (pm, .inr (6, [.ref ly, .ref pk, .int 0])), (dm, .inr (6, [.ref ly, .ref dk, .int 0])), (pk, .inl (cI, 16, .inl fp)), (dk, .inl (cI, 16, .inl fd))] sz) := by
  refine Met.ofW (cc := cX7_begin) (maxL := 2) (ret := none) (by decide) rfl ?_
  intro p e s m args below meth c s₁ B hml hv
  obtain ⟨rfl, hsz, hP, hK, hD0⟩ := hv
  have hx := B.exec
  have hb := B.bytes
  have hr := B.returns
  have hgt := fun w (h : w ∈ GT) => atoms_spec (ws := wsX7_begin) B.pre w (List.mem_cons_of_mem _ h)
  have hown : s.vm.findClass RX7 = some m.cls := findClass_of_methodNamed B.named
  have hlocks := B.notSynchronized
  subst hsz
  have hD := hD0.self (sz := s.heap.size)
  generalize hAe : va_A [(pl, .inr (7, [.ref ly, .ref pm, .int 0, .ref (rP 0), .ref (rP 1), .int 0])), (pm, .inr (6, [.ref ly, .ref pk, .int 0])), (dm, .inr (6, [.ref ly, .ref dk, .int 0])), (pk, .inl (cI, 16, .inl fp)), (dk, .inl (cI, 16, .inl fd))] s.heap.size = A at hD ⊢
  have hA : ∀ q : Nat, s.heap.size ≤ q → A q := fun q h => by rw [← hAe]; exact Or.inr h
  have hS : va_S A s.heap s.heap [] := va_S.rf
  have hP : va_P D vwCl [(pl, .inr (7, [.ref ly, .ref pm, .int 0, .ref (rP 0), .ref (rP 1), .int 0])), (pm, .inr (6, [.ref ly, .ref pk, .int 0])), (dm, .inr (6, [.ref ly, .ref dk, .int 0])), (pk, .inl (cI, 16, .inl fp)), (dk, .inl (cI, 16, .inl fd))] s.heap := hP
  have hl := lv_entry ([.ref pl, .ref dm]) (n := 2) (Nat.le_of_ble_eq_true rfl)
  rw [lg_entry_eq]
  generalize (lg_sl ([.ref pl, .ref dm]) ++ List.replicate (2 - (lg_sl ([.ref pl, .ref dm])).length) Slot.unset).toArray = ls at hl ⊢
  have hl : lv_has ls 2 [(0, .ref pl), (1, .ref dm)] := hl
  refine lv_aload_n hx hb dX7_begin_0 rfl (lv_at hl 0 rfl) ?_
  refine va_get (D := D) (ci := 7) (v := .ref pm) (C := RX7) (T := TX7) (N := 6) hx hb hgt iwX7 hown hK hP 0 rfl rfl 1 (Nat.le_of_ble_eq_true rfl) (hgt _ wd_1_161) (fun _ h9 => h9) rfl dX7_begin_1 ?_
  refine lv_aload_n hx hb dX7_begin_4 rfl (lv_at hl 1 rfl) ?_
  have hPc := hP.sub (ws' := [(pm, .inr (6, [.ref ly, .ref pk, .int 0])), (dm, .inr (6, [.ref ly, .ref dk, .int 0])), (pk, .inl (cI, 16, .inl fp)), (dk, .inl (cI, 16, .inl fd))]) [1, 2, 3, 4] rfl
  have hDc := hD.sub (ws' := [(pm, .inr (6, [.ref ly, .ref pk, .int 0])), (dm, .inr (6, [.ref ly, .ref dk, .int 0])), (pk, .inl (cI, 16, .inl fp)), (dk, .inl (cI, 16, .inl fd))]) [1, 2, 3, 4] (by decide) rfl
  have hFc := va_free (wc := [(pm, .inr (6, [.ref ly, .ref pk, .int 0])), (dm, .inr (6, [.ref ly, .ref dk, .int 0])), (pk, .inl (cI, 16, .inl fp)), (dk, .inl (cI, 16, .inl fd))]) hD hS hA [1, 2, 3, 4] rfl
  refine va_callv (va_runV (As := [.ref dm]) (rest := []) ⟨hx, hb, hml, hown, hgt⟩ (x_copy l D cI cZ cC cJ pm dm pk dk ly fp fd s.heap.size) (cwV 1 hgt (gV wd_2_188 wd_2_189 wd_2_190 wd_0_11 wd_2_191) rfl rfl rfl (by decide +kernel) ⟨Nat.le_of_ble_eq_true rfl, Nat.le_of_ble_eq_true rfl⟩) ⟨fun a U g mk q => by obtain ⟨q0, q1, qP, qK, qD⟩ := q; exact ⟨q0, q1, qP, va_K.moved (u := U) (U := U.calling g mk a) (Vm.Alike.refl U.vm) qK, qD⟩, va_recv hK hP (ci := 6) (q0 := 1) rfl rfl, fun U hU hW => ⟨rfl, by rw [hU], by rw [hU]; exact hPc, va_K.moved hW.alike hK, hDc.weaken (fun _ _ _ _ => trivial)⟩⟩ rfl rfl hl.1 rfl (lv_room (Nat.le_of_ble_eq_true rfl)) dX7_begin_5 ⟨Nat.le_of_ble_eq_true rfl, Nat.le_of_ble_eq_true rfl⟩) hS (fun q _ h => hFc q h) hFc (fun u t H1 locs ht hvm hw hB hz1 hk1 hS => ?_)
  obtain ⟨hP1, hD1⟩ := hB
  rw [ht] at hP1
  obtain ⟨hP, hD⟩ := va_join (wr := [(pl, .inr (7, [.ref ly, .ref pm, .int 0, .ref (rP 0), .ref (rP 1), .int 0]))]) (w1 := [(pm, .inr (6, [.ref ly, .ref pk, .int 0]))]) hP hD [1, 2, 3, 4] [0] rfl rfl (by decide) (by decide) hk1 hFc hP1 hD1
  generalize H1 = H at hP hS ⊢
  have hP : va_P D vwCl [(pl, .inr (7, [.ref ly, .ref pm, .int 0, .ref (rP 0), .ref (rP 1), .int 0])), (pm, .inr (6, [.ref ly, .ref pk, .int 0]))] H := hP
  have hD : va_D A [(pl, .inr (7, [.ref ly, .ref pm, .int 0, .ref (rP 0), .ref (rP 1), .int 0])), (pm, .inr (6, [.ref ly, .ref pk, .int 0]))] := hD
  refine lv_aload_n hx hb dX7_begin_8 rfl (lv_at hl 0 rfl) ?_
  have hPc := hP.sub (ws' := [(pl, .inr (7, [.ref ly, .ref pm, .int 0, .ref (rP 0), .ref (rP 1), .int 0]))]) [0] rfl
  have hDc := hD.sub (ws' := [(pl, .inr (7, [.ref ly, .ref pm, .int 0, .ref (rP 0), .ref (rP 1), .int 0]))]) [0] (by decide) rfl
  have hFc := va_free (wc := [(pl, .inr (7, [.ref ly, .ref pm, .int 0, .ref (rP 0), .ref (rP 1), .int 0]))]) hD hS hA [0] rfl
  refine va_callv (va_runV (As := []) (rest := []) ⟨hx, hb, hml, hown, hgt⟩ (x_beginHere l D cI cZ cC cJ pl ly pm rP H.size) (cwV 0 hgt (gV wd_2_195 wd_2_196 wd_2_197 wd_0_12 wd_2_198) rfl rfl rfl (by decide +kernel) ⟨Nat.le_of_ble_eq_true rfl, Nat.le_of_ble_eq_true rfl⟩) ⟨fun a U g mk q => by obtain ⟨q0, q1, qP, qK, qD⟩ := q; exact ⟨q0, q1, qP, va_K.moved (u := U) (U := U.calling g mk a) (Vm.Alike.refl U.vm) qK, qD⟩, va_recv hK hP (ci := 7) (q0 := 0) rfl rfl, fun U hU hW => ⟨rfl, by rw [hU], by rw [hU]; exact hPc, va_K.moved hW.alike hK, hDc.weaken (fun _ _ _ _ => trivial)⟩⟩ rfl rfl hl.1 rfl (lv_room (Nat.le_of_ble_eq_true rfl)) dX7_begin_9 ⟨Nat.le_of_ble_eq_true rfl, Nat.le_of_ble_eq_true rfl⟩) hS (fun q _ h => hFc q h) hFc (fun u t H1 locs ht hvm hw hB hz1 hk1 hS => ?_)
  obtain ⟨hP1, hD1⟩ := hB
  rw [ht] at hP1
  obtain ⟨hP, hD⟩ := va_join (wr := [(pm, .inr (6, [.ref ly, .ref pk, .int 0]))]) (w1 := [(pl, .inr (7, [.ref ly, .ref pm, .int 0, .ref (rP 0), .ref (rP 1), .int 0]))]) hP hD [0] [1] rfl rfl (by decide) (by decide) hk1 hFc hP1 hD1
  generalize H1 = H at hP hS ⊢
  have hP : va_P D vwCl [(pm, .inr (6, [.ref ly, .ref pk, .int 0])), (pl, .inr (7, [.ref ly, .ref pm, .int 0, .ref (rP 0), .ref (rP 1), .int 0]))] H := hP
  have hD : va_D A [(pm, .inr (6, [.ref ly, .ref pk, .int 0])), (pl, .inr (7, [.ref ly, .ref pm, .int 0, .ref (rP 0), .ref (rP 1), .int 0]))] := hD
  have hP9 := hP.sub (ws' := [(pl, .inr (7, [.ref ly, .ref pm, .int 0, .ref (rP 0), .ref (rP 1), .int 0]))]) [1] rfl
  have hD9 := hD.sub (ws' := [(pl, .inr (7, [.ref ly, .ref pm, .int 0, .ref (rP 0), .ref (rP 1), .int 0]))]) [1] (by decide) rfl
  refine W.widen (k := 0) (n := 0) (Nat.le_of_ble_eq_true rfl) (Nat.le_of_ble_eq_true rfl) ?_
  exact W.vret hx hb hr (fun t ht hW => ⟨⟨(), rfl, trivial, by rw [ht]; exact hP9, hD9⟩, hS.F ht⟩) hS.2.2 dX7_begin_12
set_option maxHeartbeats 4000000 in
set_option maxRecDepth 100000 in
theorem x_addJoined (l : Launch) (D : va_G) (cI cZ cC cJ : ClassId) (pl : Nat) (st : Nat) (sk : Nat) (rS : Nat → Nat) (sz : Nat) : Met l yX7_addJoined wsX7_addJoined ({ frames := 0, cells := 0, slots := 0, locals := 0 }) (va_Pc [.ref pl, .ref st] (fun U => U.heap.size = sz ∧ va_P D vwCl [(st, .inr (10, [.int 0, .ref sk, .ref (rS 0), .ref (rS 1)]))] U.heap ∧ va_K D vwCl [(cI, .int), (cZ, .boolean), (cC, .char), (cJ, .long)] U ∧ va_D (fun _ => True) [(st, .inr (10, [.int 0, .ref sk, .ref (rS 0), .ref (rS 1)]))])) (va_Qv (fun (_ : Unit) => True) (fun _ t => va_P D vwCl [(st, .inr (10, [.int 0, .ref sk, .ref (rS 0), .ref (rS 1)]))] t.heap ∧ va_D (va_A [(st, .inr (10, [.int 0, .ref sk, .ref (rS 0), .ref (rS 1)]))] sz) [(st, .inr (10, [.int 0, .ref sk, .ref (rS 0), .ref (rS 1)]))]) (va_A [(st, .inr (10, [.int 0, .ref sk, .ref (rS 0), .ref (rS 1)]))] sz)) 0 0 (va_A [(st, .inr (10, [.int 0, .ref sk, .ref (rS 0), .ref (rS 1)]))] sz) := by
  refine Met.ofW (cc := cX7_addJoined) (maxL := 3) (ret := none) (by decide) rfl ?_
  intro p e s m args below meth c s₁ B hml hv
  obtain ⟨rfl, hsz, hP, hK, hD0⟩ := hv
  have hx := B.exec
  have hb := B.bytes
  have hr := B.returns
  have hgt := fun w (h : w ∈ GT) => atoms_spec (ws := wsX7_addJoined) B.pre w (List.mem_cons_of_mem _ h)
  have hown : s.vm.findClass RX7 = some m.cls := findClass_of_methodNamed B.named
  have hlocks := B.notSynchronized
  subst hsz
  have hD := hD0.self (sz := s.heap.size)
  generalize hAe : va_A [(st, .inr (10, [.int 0, .ref sk, .ref (rS 0), .ref (rS 1)]))] s.heap.size = A at hD ⊢
  have hA : ∀ q : Nat, s.heap.size ≤ q → A q := fun q h => by rw [← hAe]; exact Or.inr h
  have hS : va_S A s.heap s.heap [] := va_S.rf
  have hP : va_P D vwCl [(st, .inr (10, [.int 0, .ref sk, .ref (rS 0), .ref (rS 1)]))] s.heap := hP
  have hl := lv_entry ([.ref pl, .ref st]) (n := 3) (Nat.le_of_ble_eq_true rfl)
  rw [lg_entry_eq]
  generalize (lg_sl ([.ref pl, .ref st]) ++ List.replicate (3 - (lg_sl ([.ref pl, .ref st])).length) Slot.unset).toArray = ls at hl ⊢
  have hl : lv_has ls 3 [(0, .ref pl), (1, .ref st)] := hl
  refine lv_iconst (v := 0) hx hb dX7_addJoined_0 (by decide) ?_
  refine lv_istore_n hx hb dX7_addJoined_1 rfl hl (Nat.le_of_ble_eq_true rfl) (lv' := [(2, .int 0), (0, .ref pl), (1, .ref st)]) rfl (fun ls hl => ?_)
  refine lv_iload_n hx hb dX7_addJoined_2 rfl (lv_at hl 0 rfl) ?_
  refine lv_aload_n hx hb dX7_addJoined_3 rfl (lv_at hl 2 rfl) ?_
  refine va_get (D := D) (ci := 10) (v := .int 0) (C := RX10) (T := TX10) (N := 4) hx hb hgt iwX10 hown hK hP 0 rfl rfl 0 (Nat.le_of_ble_eq_true rfl) (hgt _ wd_1_194) (fun _ h9 => h9) rfl dX7_addJoined_4 ?_
  refine lv_icmp_ge hx hb dX7_addJoined_7 (tgt := 44) rfl (fun _ => ?_) (fun h_7 => absurd (by decide) h_7)
  have hP9 := hP.sub (ws' := [(st, .inr (10, [.int 0, .ref sk, .ref (rS 0), .ref (rS 1)]))]) [0] rfl
  have hD9 := hD.sub (ws' := [(st, .inr (10, [.int 0, .ref sk, .ref (rS 0), .ref (rS 1)]))]) [0] (by decide) rfl
  refine W.widen (k := 0) (n := 0) (Nat.le_of_ble_eq_true rfl) (Nat.le_of_ble_eq_true rfl) ?_
  exact W.vret hx hb hr (fun t ht hW => ⟨⟨(), rfl, trivial, by rw [ht]; exact hP9, hD9⟩, hS.F ht⟩) hS.2.2 dX7_addJoined_44
set_option maxHeartbeats 4000000 in
set_option maxRecDepth 100000 in
theorem x_doWrites (l : Launch) (D : va_G) (cI cZ cC cJ : ClassId) (x : Nat) (dr : Nat) (rd : Nat) (jd : Nat) (ly : Nat) (dv : Nat) (pl : Nat) (jo : Nat) (sc : Nat) (ck : Nat) (pm : Nat) (rP : Nat → Nat) (sz : Nat) : Met l yX11_doWrites wsX11_doWrites ({ frames := 0, cells := 0, slots := 0, locals := 0 }) (va_Pc [.ref x] (fun U => U.heap.size = sz ∧ va_P D vwCl [(x, .inr (11, [.ref dr, .ref rd, .ref jd, .ref ly, .ref dv, .ref pl, .ref jo, .ref sc, .ref ck])), (pl, .inr (7, [.ref ly, .ref pm, .int 0, .ref (rP 0), .ref (rP 1), .int 0]))] U.heap ∧ va_K D vwCl [(cI, .int), (cZ, .boolean), (cC, .char), (cJ, .long)] U ∧ va_D (fun _ => True) [(x, .inr (11, [.ref dr, .ref rd, .ref jd, .ref ly, .ref dv, .ref pl, .ref jo, .ref sc, .ref ck])), (pl, .inr (7, [.ref ly, .ref pm, .int 0, .ref (rP 0), .ref (rP 1), .int 0]))])) (va_Qi (fun (r : Int32) (_ : Unit) => r = 0) (fun _ t => va_P D vwCl [(x, .inr (11, [.ref dr, .ref rd, .ref jd, .ref ly, .ref dv, .ref pl, .ref jo, .ref sc, .ref ck]))] t.heap ∧ va_D (va_A [(x, .inr (11, [.ref dr, .ref rd, .ref jd, .ref ly, .ref dv, .ref pl, .ref jo, .ref sc, .ref ck])), (pl, .inr (7, [.ref ly, .ref pm, .int 0, .ref (rP 0), .ref (rP 1), .int 0]))] sz) [(x, .inr (11, [.ref dr, .ref rd, .ref jd, .ref ly, .ref dv, .ref pl, .ref jo, .ref sc, .ref ck]))]) (va_A [(x, .inr (11, [.ref dr, .ref rd, .ref jd, .ref ly, .ref dv, .ref pl, .ref jo, .ref sc, .ref ck])), (pl, .inr (7, [.ref ly, .ref pm, .int 0, .ref (rP 0), .ref (rP 1), .int 0]))] sz)) 0 0 (va_A [(x, .inr (11, [.ref dr, .ref rd, .ref jd, .ref ly, .ref dv, .ref pl, .ref jo, .ref sc, .ref ck])), (pl, .inr (7, [.ref ly, .ref pm, .int 0, .ref (rP 0), .ref (rP 1), .int 0]))] sz) := by
  refine Met.ofW (cc := cX11_doWrites) (maxL := 2) (ret := (some .int)) (by decide) rfl ?_
  intro p e s m args below meth c s₁ B hml hv
  obtain ⟨rfl, hsz, hP, hK, hD0⟩ := hv
  have hx := B.exec
  have hb := B.bytes
  have hr := B.returns
  have hgt := fun w (h : w ∈ GT) => atoms_spec (ws := wsX11_doWrites) B.pre w (List.mem_cons_of_mem _ h)
  have hown : s.vm.findClass RX11 = some m.cls := findClass_of_methodNamed B.named
  have hlocks := B.notSynchronized
  subst hsz
  have hD := hD0.self (sz := s.heap.size)
  generalize hAe : va_A [(x, .inr (11, [.ref dr, .ref rd, .ref jd, .ref ly, .ref dv, .ref pl, .ref jo, .ref sc, .ref ck])), (pl, .inr (7, [.ref ly, .ref pm, .int 0, .ref (rP 0), .ref (rP 1), .int 0]))] s.heap.size = A at hD ⊢
  have hA : ∀ q : Nat, s.heap.size ≤ q → A q := fun q h => by rw [← hAe]; exact Or.inr h
  have hS : va_S A s.heap s.heap [] := va_S.rf
  have hP : va_P D vwCl [(x, .inr (11, [.ref dr, .ref rd, .ref jd, .ref ly, .ref dv, .ref pl, .ref jo, .ref sc, .ref ck])), (pl, .inr (7, [.ref ly, .ref pm, .int 0, .ref (rP 0), .ref (rP 1), .int 0]))] s.heap := hP
  have hl := lv_entry ([.ref x]) (n := 2) (Nat.le_of_ble_eq_true rfl)
  rw [lg_entry_eq]
  generalize (lg_sl ([.ref x]) ++ List.replicate (2 - (lg_sl ([.ref x])).length) Slot.unset).toArray = ls at hl ⊢
  have hl : lv_has ls 2 [(0, .ref x)] := hl
  refine lv_aload_n hx hb dX11_doWrites_0 rfl (lv_at hl 0 rfl) ?_
  refine va_get (D := D) (ci := 11) (v := .ref pl) (C := RX11) (T := TX11) (N := 9) hx hb hgt iwX11 hown hK hP 0 rfl rfl 5 (Nat.le_of_ble_eq_true rfl) (hgt _ wd_2_22) (fun _ h9 => h9) rfl dX11_doWrites_1 ?_
  refine va_get (D := D) (ci := 7) (v := .int 0) (C := RX7) (T := TX7) (N := 6) hx hb hgt iwX7 hown hK hP 1 rfl rfl 5 (Nat.le_of_ble_eq_true rfl) (hgt _ wd_1_171) (fun _ h9 => h9) rfl dX11_doWrites_4 ?_
  refine lv_if_eq hx hb dX11_doWrites_7 (tgt := 13) rfl (fun _ => ?_) (fun h_7 => absurd (by decide) h_7)
  refine lv_iconst (v := 0) hx hb dX11_doWrites_13 (by decide) ?_
  refine lv_istore_n hx hb dX11_doWrites_14 rfl hl (Nat.le_of_ble_eq_true rfl) (lv' := [(1, .int 0), (0, .ref x)]) rfl (fun ls hl => ?_)
  refine lv_iload_n hx hb dX11_doWrites_15 rfl (lv_at hl 0 rfl) ?_
  refine lv_aload_n hx hb dX11_doWrites_16 rfl (lv_at hl 1 rfl) ?_
  refine va_get (D := D) (ci := 11) (v := .ref pl) (C := RX11) (T := TX11) (N := 9) hx hb hgt iwX11 hown hK hP 0 rfl rfl 5 (Nat.le_of_ble_eq_true rfl) (hgt _ wd_2_22) (fun _ h9 => h9) rfl dX11_doWrites_17 ?_
  refine va_get (D := D) (ci := 7) (v := .int 0) (C := RX7) (T := TX7) (N := 6) hx hb hgt iwX7 hown hK hP 1 rfl rfl 2 (Nat.le_of_ble_eq_true rfl) (hgt _ wd_1_164) (fun _ h9 => h9) rfl dX11_doWrites_20 ?_
  refine lv_icmp_ge hx hb dX11_doWrites_23 (tgt := 57) rfl (fun _ => ?_) (fun h_23 => absurd (by decide) h_23)
  refine lv_aload_n hx hb dX11_doWrites_57 rfl (lv_at hl 1 rfl) ?_
  refine va_get (D := D) (ci := 11) (v := .ref pl) (C := RX11) (T := TX11) (N := 9) hx hb hgt iwX11 hown hK hP 0 rfl rfl 5 (Nat.le_of_ble_eq_true rfl) (hgt _ wd_2_22) (fun _ h9 => h9) rfl dX11_doWrites_58 ?_
  refine va_get (D := D) (ci := 7) (v := .int 0) (C := RX7) (T := TX7) (N := 6) hx hb hgt iwX7 hown hK hP 1 rfl rfl 2 (Nat.le_of_ble_eq_true rfl) (hgt _ wd_1_164) (fun _ h9 => h9) rfl dX11_doWrites_61 ?_
  have hP9 := hP.sub (ws' := [(x, .inr (11, [.ref dr, .ref rd, .ref jd, .ref ly, .ref dv, .ref pl, .ref jo, .ref sc, .ref ck]))]) [0] rfl
  have hD9 := hD.sub (ws' := [(x, .inr (11, [.ref dr, .ref rd, .ref jd, .ref ly, .ref dv, .ref pl, .ref jo, .ref sc, .ref ck]))]) [0] (by decide) rfl
  refine W.widen (k := 0) (n := 0) (Nat.le_of_ble_eq_true rfl) (Nat.le_of_ble_eq_true rfl) ?_
  exact W.iret (v := 0) hx hb hr (fun t ht hW => ⟨⟨0, (), rfl, rfl, by rw [ht]; exact hP9, hD9⟩, hS.F ht⟩) hS.2.2 dX11_doWrites_64
set_option maxHeartbeats 4000000 in
set_option maxRecDepth 100000 in
theorem x_flush (l : Launch) (D : va_G) (cI cZ cC cJ : ClassId) (x : Nat) (dr : Nat) (rd : Nat) (jd : Nat) (ly : Nat) (dv : Nat) (pl : Nat) (jo : Nat) (sc : Nat) (ck : Nat) (dm : Nat) (lg : Nat) (rV : Nat → Nat) (pm : Nat) (rP : Nat → Nat) (pk : Nat) (dk : Nat) (fp : Nat → Int32) (fd : Nat → Int32) (sk : Nat) (rS : Nat → Nat) (sz : Nat) : Met l yX11_flush wsX11_flush ({ frames := 3, cells := 0, slots := 0, locals := 106 }) (va_Pc [.ref x] (fun U => U.heap.size = sz ∧ va_P D vwCl [(x, .inr (11, [.ref dr, .ref rd, .ref jd, .ref ly, .ref dv, .ref pl, .ref jo, .ref sc, .ref ck])), (dv, .inr (1, [.ref ly, .ref dm, .ref lg, .int 0, .ref (rV 0), .ref (rV 1), .ref (rV 2)])), (pl, .inr (7, [.ref ly, .ref pm, .int 0, .ref (rP 0), .ref (rP 1), .int 0])), (pm, .inr (6, [.ref ly, .ref pk, .int 0])), (dm, .inr (6, [.ref ly, .ref dk, .int 0])), (pk, .inl (cI, 16, .inl fp)), (dk, .inl (cI, 16, .inl fd)), (jo, .inr (10, [.int 0, .ref sk, .ref (rS 0), .ref (rS 1)]))] U.heap ∧ va_K D vwCl [(cI, .int), (cZ, .boolean), (cC, .char), (cJ, .long)] U ∧ va_D (fun _ => True) [(x, .inr (11, [.ref dr, .ref rd, .ref jd, .ref ly, .ref dv, .ref pl, .ref jo, .ref sc, .ref ck])), (dv, .inr (1, [.ref ly, .ref dm, .ref lg, .int 0, .ref (rV 0), .ref (rV 1), .ref (rV 2)])), (pl, .inr (7, [.ref ly, .ref pm, .int 0, .ref (rP 0), .ref (rP 1), .int 0])), (pm, .inr (6, [.ref ly, .ref pk, .int 0])), (dm, .inr (6, [.ref ly, .ref dk, .int 0])), (pk, .inl (cI, 16, .inl fp)), (dk, .inl (cI, 16, .inl fd)), (jo, .inr (10, [.int 0, .ref sk, .ref (rS 0), .ref (rS 1)]))])) (va_Qi (fun (r : Int32) (_ : Unit) => r = 0) (fun _ _ => True) (va_A [(x, .inr (11, [.ref dr, .ref rd, .ref jd, .ref ly, .ref dv, .ref pl, .ref jo, .ref sc, .ref ck])), (dv, .inr (1, [.ref ly, .ref dm, .ref lg, .int 0, .ref (rV 0), .ref (rV 1), .ref (rV 2)])), (pl, .inr (7, [.ref ly, .ref pm, .int 0, .ref (rP 0), .ref (rP 1), .int 0])), (pm, .inr (6, [.ref ly, .ref pk, .int 0])), (dm, .inr (6, [.ref ly, .ref dk, .int 0])), (pk, .inl (cI, 16, .inl fp)), (dk, .inl (cI, 16, .inl fd)), (jo, .inr (10, [.int 0, .ref sk, .ref (rS 0), .ref (rS 1)]))] sz)) 0 0 (va_A [(x, .inr (11, [.ref dr, .ref rd, .ref jd, .ref ly, .ref dv, .ref pl, .ref jo, .ref sc, .ref ck])), (dv, .inr (1, [.ref ly, .ref dm, .ref lg, .int 0, .ref (rV 0), .ref (rV 1), .ref (rV 2)])), (pl, .inr (7, [.ref ly, .ref pm, .int 0, .ref (rP 0), .ref (rP 1), .int 0])), (pm, .inr (6, [.ref ly, .ref pk, .int 0])), (dm, .inr (6, [.ref ly, .ref dk, .int 0])), (pk, .inl (cI, 16, .inl fp)), (dk, .inl (cI, 16, .inl fd)), (jo, .inr (10, [.int 0, .ref sk, .ref (rS 0), .ref (rS 1)]))] sz) := by
  refine Met.ofW (cc := cX11_flush) (maxL := 2) (ret := (some .int)) (by decide) rfl ?_
  intro p e s m args below meth c s₁ B hml hv
  obtain ⟨rfl, hsz, hP, hK, hD0⟩ := hv
  have hx := B.exec
  have hb := B.bytes
  have hr := B.returns
  have hgt := fun w (h : w ∈ GT) => atoms_spec (ws := wsX11_flush) B.pre w (List.mem_cons_of_mem _ h)
  have hown : s.vm.findClass RX11 = some m.cls := findClass_of_methodNamed B.named
  have hlocks := B.notSynchronized
  subst hsz
  have hD := hD0.self (sz := s.heap.size)
  generalize hAe : va_A [(x, .inr (11, [.ref dr, .ref rd, .ref jd, .ref ly, .ref dv, .ref pl, .ref jo, .ref sc, .ref ck])), (dv, .inr (1, [.ref ly, .ref dm, .ref lg, .int 0, .ref (rV 0), .ref (rV 1), .ref (rV 2)])), (pl, .inr (7, [.ref ly, .ref pm, .int 0, .ref (rP 0), .ref (rP 1), .int 0])), (pm, .inr (6, [.ref ly, .ref pk, .int 0])), (dm, .inr (6, [.ref ly, .ref dk, .int 0])), (pk, .inl (cI, 16, .inl fp)), (dk, .inl (cI, 16, .inl fd)), (jo, .inr (10, [.int 0, .ref sk, .ref (rS 0), .ref (rS 1)]))] s.heap.size = A at hD ⊢
  have hA : ∀ q : Nat, s.heap.size ≤ q → A q := fun q h => by rw [← hAe]; exact Or.inr h
  have hS : va_S A s.heap s.heap [] := va_S.rf
  have hP : va_P D vwCl [(x, .inr (11, [.ref dr, .ref rd, .ref jd, .ref ly, .ref dv, .ref pl, .ref jo, .ref sc, .ref ck])), (dv, .inr (1, [.ref ly, .ref dm, .ref lg, .int 0, .ref (rV 0), .ref (rV 1), .ref (rV 2)])), (pl, .inr (7, [.ref ly, .ref pm, .int 0, .ref (rP 0), .ref (rP 1), .int 0])), (pm, .inr (6, [.ref ly, .ref pk, .int 0])), (dm, .inr (6, [.ref ly, .ref dk, .int 0])), (pk, .inl (cI, 16, .inl fp)), (dk, .inl (cI, 16, .inl fd)), (jo, .inr (10, [.int 0, .ref sk, .ref (rS 0), .ref (rS 1)]))] s.heap := hP
  have hl := lv_entry ([.ref x]) (n := 2) (Nat.le_of_ble_eq_true rfl)
  rw [lg_entry_eq]
  generalize (lg_sl ([.ref x]) ++ List.replicate (2 - (lg_sl ([.ref x])).length) Slot.unset).toArray = ls at hl ⊢
  have hl : lv_has ls 2 [(0, .ref x)] := hl
  refine lv_aload_n hx hb dX11_flush_0 rfl (lv_at hl 0 rfl) ?_
  refine va_get (D := D) (ci := 11) (v := .ref pl) (C := RX11) (T := TX11) (N := 9) hx hb hgt iwX11 hown hK hP 0 rfl rfl 5 (Nat.le_of_ble_eq_true rfl) (hgt _ wd_2_22) (fun _ h9 => h9) rfl dX11_flush_1 ?_
  refine lv_aload_n hx hb dX11_flush_4 rfl (lv_at hl 0 rfl) ?_
  refine va_get (D := D) (ci := 11) (v := .ref dv) (C := RX11) (T := TX11) (N := 9) hx hb hgt iwX11 hown hK hP 0 rfl rfl 4 (Nat.le_of_ble_eq_true rfl) (hgt _ wd_2_21) (fun _ h9 => h9) rfl dX11_flush_5 ?_
  refine va_get (D := D) (ci := 1) (v := .ref dm) (C := RX1) (T := TX1) (N := 7) hx hb hgt iwX1 hown hK hP 1 rfl rfl 1 (Nat.le_of_ble_eq_true rfl) (hgt _ wd_1_128) (fun _ h9 => h9) rfl dX11_flush_8 ?_
  have hPc := hP.sub (ws' := [(pl, .inr (7, [.ref ly, .ref pm, .int 0, .ref (rP 0), .ref (rP 1), .int 0])), (pm, .inr (6, [.ref ly, .ref pk, .int 0])), (dm, .inr (6, [.ref ly, .ref dk, .int 0])), (pk, .inl (cI, 16, .inl fp)), (dk, .inl (cI, 16, .inl fd))]) [2, 3, 4, 5, 6] rfl
  have hDc := hD.sub (ws' := [(pl, .inr (7, [.ref ly, .ref pm, .int 0, .ref (rP 0), .ref (rP 1), .int 0])), (pm, .inr (6, [.ref ly, .ref pk, .int 0])), (dm, .inr (6, [.ref ly, .ref dk, .int 0])), (pk, .inl (cI, 16, .inl fp)), (dk, .inl (cI, 16, .inl fd))]) [2, 3, 4, 5, 6] (by decide) rfl
  have hFc := va_free (wc := [(pl, .inr (7, [.ref ly, .ref pm, .int 0, .ref (rP 0), .ref (rP 1), .int 0])), (pm, .inr (6, [.ref ly, .ref pk, .int 0])), (dm, .inr (6, [.ref ly, .ref dk, .int 0])), (pk, .inl (cI, 16, .inl fp)), (dk, .inl (cI, 16, .inl fd))]) hD hS hA [2, 3, 4, 5, 6] rfl
  refine va_callv (va_runV (As := [.ref dm]) (rest := []) ⟨hx, hb, hml, hown, hgt⟩ (x_begin l D cI cZ cC cJ pl ly pm rP dm pk dk fp fd s.heap.size) (cwV 1 hgt (gV wd_2_184 wd_2_185 wd_2_186 wd_0_12 wd_2_187) rfl rfl rfl (by decide +kernel) ⟨Nat.le_of_ble_eq_true rfl, Nat.le_of_ble_eq_true rfl⟩) ⟨fun a U g mk q => by obtain ⟨q0, q1, qP, qK, qD⟩ := q; exact ⟨q0, q1, qP, va_K.moved (u := U) (U := U.calling g mk a) (Vm.Alike.refl U.vm) qK, qD⟩, va_recv hK hP (ci := 7) (q0 := 2) rfl rfl, fun U hU hW => ⟨rfl, by rw [hU], by rw [hU]; exact hPc, va_K.moved hW.alike hK, hDc.weaken (fun _ _ _ _ => trivial)⟩⟩ rfl rfl hl.1 rfl (lv_room (Nat.le_of_ble_eq_true rfl)) dX11_flush_11 ⟨Nat.le_of_ble_eq_true rfl, Nat.le_of_ble_eq_true rfl⟩) hS (fun q _ h => hFc q h) hFc (fun u t H1 locs ht hvm hw hB hz1 hk1 hS => ?_)
  obtain ⟨hP1, hD1⟩ := hB
  rw [ht] at hP1
  obtain ⟨hP, hD⟩ := va_join (wr := [(x, .inr (11, [.ref dr, .ref rd, .ref jd, .ref ly, .ref dv, .ref pl, .ref jo, .ref sc, .ref ck])), (dv, .inr (1, [.ref ly, .ref dm, .ref lg, .int 0, .ref (rV 0), .ref (rV 1), .ref (rV 2)])), (jo, .inr (10, [.int 0, .ref sk, .ref (rS 0), .ref (rS 1)]))]) (w1 := [(pl, .inr (7, [.ref ly, .ref pm, .int 0, .ref (rP 0), .ref (rP 1), .int 0]))]) hP hD [2, 3, 4, 5, 6] [0, 1, 7] rfl rfl (by decide) (by decide) hk1 hFc hP1 hD1
  generalize H1 = H at hP hS ⊢
  have hP : va_P D vwCl [(x, .inr (11, [.ref dr, .ref rd, .ref jd, .ref ly, .ref dv, .ref pl, .ref jo, .ref sc, .ref ck])), (dv, .inr (1, [.ref ly, .ref dm, .ref lg, .int 0, .ref (rV 0), .ref (rV 1), .ref (rV 2)])), (jo, .inr (10, [.int 0, .ref sk, .ref (rS 0), .ref (rS 1)])), (pl, .inr (7, [.ref ly, .ref pm, .int 0, .ref (rP 0), .ref (rP 1), .int 0]))] H := hP
  have hD : va_D A [(x, .inr (11, [.ref dr, .ref rd, .ref jd, .ref ly, .ref dv, .ref pl, .ref jo, .ref sc, .ref ck])), (dv, .inr (1, [.ref ly, .ref dm, .ref lg, .int 0, .ref (rV 0), .ref (rV 1), .ref (rV 2)])), (jo, .inr (10, [.int 0, .ref sk, .ref (rS 0), .ref (rS 1)])), (pl, .inr (7, [.ref ly, .ref pm, .int 0, .ref (rP 0), .ref (rP 1), .int 0]))] := hD
  refine lv_aload_n hx hb dX11_flush_14 rfl (lv_at hl 0 rfl) ?_
  refine va_get (D := D) (ci := 11) (v := .ref pl) (C := RX11) (T := TX11) (N := 9) hx hb hgt iwX11 hown hK hP 0 rfl rfl 5 (Nat.le_of_ble_eq_true rfl) (hgt _ wd_2_22) (fun _ h9 => h9) rfl dX11_flush_15 ?_
  refine lv_aload_n hx hb dX11_flush_18 rfl (lv_at hl 0 rfl) ?_
  refine va_get (D := D) (ci := 11) (v := .ref jo) (C := RX11) (T := TX11) (N := 9) hx hb hgt iwX11 hown hK hP 0 rfl rfl 6 (Nat.le_of_ble_eq_true rfl) (hgt _ wd_2_23) (fun _ h9 => h9) rfl dX11_flush_19 ?_
  have hPc := hP.sub (ws' := [(jo, .inr (10, [.int 0, .ref sk, .ref (rS 0), .ref (rS 1)]))]) [2] rfl
  have hDc := hD.sub (ws' := [(jo, .inr (10, [.int 0, .ref sk, .ref (rS 0), .ref (rS 1)]))]) [2] (by decide) rfl
  have hFc := va_free (wc := [(jo, .inr (10, [.int 0, .ref sk, .ref (rS 0), .ref (rS 1)]))]) hD hS hA [2] rfl
  refine va_callv (va_runV (As := [.ref jo]) (rest := []) ⟨hx, hb, hml, hown, hgt⟩ (x_addJoined l D cI cZ cC cJ pl jo sk rS H.size) (cwV 1 hgt (gV wd_3_0 wd_3_1 wd_3_2 wd_0_12 wd_3_3) rfl rfl rfl (by decide +kernel) ⟨Nat.le_of_ble_eq_true rfl, Nat.le_of_ble_eq_true rfl⟩) ⟨fun a U g mk q => by obtain ⟨q0, q1, qP, qK, qD⟩ := q; exact ⟨q0, q1, qP, va_K.moved (u := U) (U := U.calling g mk a) (Vm.Alike.refl U.vm) qK, qD⟩, va_recv hK hP (ci := 7) (q0 := 3) rfl rfl, fun U hU hW => ⟨rfl, by rw [hU], by rw [hU]; exact hPc, va_K.moved hW.alike hK, hDc.weaken (fun _ _ _ _ => trivial)⟩⟩ rfl rfl hl.1 rfl (lv_room (Nat.le_of_ble_eq_true rfl)) dX11_flush_22 ⟨Nat.le_of_ble_eq_true rfl, Nat.le_of_ble_eq_true rfl⟩) hS (fun q _ h => hFc q h) hFc (fun u t H1 locs ht hvm hw hB hz1 hk1 hS => ?_)
  obtain ⟨hP1, hD1⟩ := hB
  rw [ht] at hP1
  obtain ⟨hP, hD⟩ := va_join (wr := [(x, .inr (11, [.ref dr, .ref rd, .ref jd, .ref ly, .ref dv, .ref pl, .ref jo, .ref sc, .ref ck])), (dv, .inr (1, [.ref ly, .ref dm, .ref lg, .int 0, .ref (rV 0), .ref (rV 1), .ref (rV 2)])), (pl, .inr (7, [.ref ly, .ref pm, .int 0, .ref (rP 0), .ref (rP 1), .int 0]))]) (w1 := [(jo, .inr (10, [.int 0, .ref sk, .ref (rS 0), .ref (rS 1)]))]) hP hD [2] [0, 1, 3] rfl rfl (by decide) (by decide) hk1 hFc hP1 hD1
  generalize H1 = H at hP hS ⊢
  have hP : va_P D vwCl [(x, .inr (11, [.ref dr, .ref rd, .ref jd, .ref ly, .ref dv, .ref pl, .ref jo, .ref sc, .ref ck])), (dv, .inr (1, [.ref ly, .ref dm, .ref lg, .int 0, .ref (rV 0), .ref (rV 1), .ref (rV 2)])), (pl, .inr (7, [.ref ly, .ref pm, .int 0, .ref (rP 0), .ref (rP 1), .int 0])), (jo, .inr (10, [.int 0, .ref sk, .ref (rS 0), .ref (rS 1)]))] H := hP
  have hD : va_D A [(x, .inr (11, [.ref dr, .ref rd, .ref jd, .ref ly, .ref dv, .ref pl, .ref jo, .ref sc, .ref ck])), (dv, .inr (1, [.ref ly, .ref dm, .ref lg, .int 0, .ref (rV 0), .ref (rV 1), .ref (rV 2)])), (pl, .inr (7, [.ref ly, .ref pm, .int 0, .ref (rP 0), .ref (rP 1), .int 0])), (jo, .inr (10, [.int 0, .ref sk, .ref (rS 0), .ref (rS 1)]))] := hD
  refine lv_aload_n hx hb dX11_flush_25 rfl (lv_at hl 0 rfl) ?_
  have hPc := hP.sub (ws' := [(x, .inr (11, [.ref dr, .ref rd, .ref jd, .ref ly, .ref dv, .ref pl, .ref jo, .ref sc, .ref ck])), (pl, .inr (7, [.ref ly, .ref pm, .int 0, .ref (rP 0), .ref (rP 1), .int 0]))]) [0, 2] rfl
  have hDc := hD.sub (ws' := [(x, .inr (11, [.ref dr, .ref rd, .ref jd, .ref ly, .ref dv, .ref pl, .ref jo, .ref sc, .ref ck])), (pl, .inr (7, [.ref ly, .ref pm, .int 0, .ref (rP 0), .ref (rP 1), .int 0]))]) [0, 2] (by decide) rfl
  have hFc := va_free (wc := [(x, .inr (11, [.ref dr, .ref rd, .ref jd, .ref ly, .ref dv, .ref pl, .ref jo, .ref sc, .ref ck])), (pl, .inr (7, [.ref ly, .ref pm, .int 0, .ref (rP 0), .ref (rP 1), .int 0]))]) hD hS hA [0, 2] rfl
  refine va_calli (va_runV (As := []) (rest := []) ⟨hx, hb, hml, hown, hgt⟩ (x_doWrites l D cI cZ cC cJ x dr rd jd ly dv pl jo sc ck pm rP H.size) (cwV 0 hgt (gV wd_2_220 wd_2_222 sl__ChipMap____ChipMap___doWrites_____I_____ChipMap___doWrites_____I__ wd_0_1 wd_2_223) rfl rfl rfl (by decide +kernel) ⟨Nat.le_of_ble_eq_true rfl, Nat.le_of_ble_eq_true rfl⟩) ⟨fun a U g mk q => by obtain ⟨q0, q1, qP, qK, qD⟩ := q; exact ⟨q0, q1, qP, va_K.moved (u := U) (U := U.calling g mk a) (Vm.Alike.refl U.vm) qK, qD⟩, va_recv hK hP (ci := 11) (q0 := 0) rfl rfl, fun U hU hW => ⟨rfl, by rw [hU], by rw [hU]; exact hPc, va_K.moved hW.alike hK, hDc.weaken (fun _ _ _ _ => trivial)⟩⟩ rfl rfl hl.1 rfl (lv_room (Nat.le_of_ble_eq_true rfl)) dX11_flush_26 ⟨Nat.le_of_ble_eq_true rfl, Nat.le_of_ble_eq_true rfl⟩) hS (fun q _ h => hFc q h) hFc (fun r u t H1 locs ht hvm hw hB hz1 hk1 hS => ?_)
  obtain ⟨hP1, hD1⟩ := hB
  rw [ht] at hP1
  obtain ⟨hP, hD⟩ := va_join (wr := [(dv, .inr (1, [.ref ly, .ref dm, .ref lg, .int 0, .ref (rV 0), .ref (rV 1), .ref (rV 2)])), (jo, .inr (10, [.int 0, .ref sk, .ref (rS 0), .ref (rS 1)]))]) (w1 := [(x, .inr (11, [.ref dr, .ref rd, .ref jd, .ref ly, .ref dv, .ref pl, .ref jo, .ref sc, .ref ck]))]) hP hD [0, 2] [1, 3] rfl rfl (by decide) (by decide) hk1 hFc hP1 hD1
  generalize H1 = H at hP hS ⊢
  have hP : va_P D vwCl [(dv, .inr (1, [.ref ly, .ref dm, .ref lg, .int 0, .ref (rV 0), .ref (rV 1), .ref (rV 2)])), (jo, .inr (10, [.int 0, .ref sk, .ref (rS 0), .ref (rS 1)])), (x, .inr (11, [.ref dr, .ref rd, .ref jd, .ref ly, .ref dv, .ref pl, .ref jo, .ref sc, .ref ck]))] H := hP
  have hD : va_D A [(dv, .inr (1, [.ref ly, .ref dm, .ref lg, .int 0, .ref (rV 0), .ref (rV 1), .ref (rV 2)])), (jo, .inr (10, [.int 0, .ref sk, .ref (rS 0), .ref (rS 1)])), (x, .inr (11, [.ref dr, .ref rd, .ref jd, .ref ly, .ref dv, .ref pl, .ref jo, .ref sc, .ref ck]))] := hD
  obtain rfl : r = 0 := hw
  refine lv_istore_n hx hb dX11_flush_29 rfl hl (Nat.le_of_ble_eq_true rfl) (lv' := [(1, .int 0), (0, .ref x)]) rfl (fun ls hl => ?_)
  refine lv_iload_n hx hb dX11_flush_30 rfl (lv_at hl 0 rfl) ?_
  refine lv_bipush (v := (-2)) hx hb dX11_flush_31 (by decide) ?_
  refine lv_icmp_eq hx hb dX11_flush_33 (tgt := 44) rfl (fun h_33 => absurd h_33 (by decide)) (fun _ => ?_)
  refine lv_aload_n hx hb dX11_flush_36 rfl (lv_at hl 1 rfl) ?_
  refine va_get (D := D) (ci := 11) (v := .ref jo) (C := RX11) (T := TX11) (N := 9) hx hb hgt iwX11 hown hK hP 2 rfl rfl 6 (Nat.le_of_ble_eq_true rfl) (hgt _ wd_2_23) (fun _ h9 => h9) rfl dX11_flush_37 ?_
  refine lv_iconst (v := 0) hx hb dX11_flush_40 (by decide) ?_
  refine va_put (D := D) (ci := 10) (v := .int 0) (ty := .int) (C := RX10) (T := TX10) (N := 4) hx hb hgt iwX10 tyX10 tyX10_ok nmX10 hown hK hP hD hS 1 rfl rfl 0 (Nat.le_of_ble_eq_true rfl) (hgt _ wd_1_193) (fun _ h9 => h9) rfl (by decide +kernel) rfl rfl (Nat.le_of_ble_eq_true rfl) dX11_flush_41 (fun H locs hP hD hS => ?_)
  have hP : va_P D vwCl [(dv, .inr (1, [.ref ly, .ref dm, .ref lg, .int 0, .ref (rV 0), .ref (rV 1), .ref (rV 2)])), (jo, .inr (10, [.int 0, .ref sk, .ref (rS 0), .ref (rS 1)])), (x, .inr (11, [.ref dr, .ref rd, .ref jd, .ref ly, .ref dv, .ref pl, .ref jo, .ref sc, .ref ck]))] H := hP
  have hD : va_D A [(dv, .inr (1, [.ref ly, .ref dm, .ref lg, .int 0, .ref (rV 0), .ref (rV 1), .ref (rV 2)])), (jo, .inr (10, [.int 0, .ref sk, .ref (rS 0), .ref (rS 1)])), (x, .inr (11, [.ref dr, .ref rd, .ref jd, .ref ly, .ref dv, .ref pl, .ref jo, .ref sc, .ref ck]))] := hD
  refine lv_iload_n hx hb dX11_flush_44 rfl (lv_at hl 0 rfl) ?_
  refine W.widen (k := 0) (n := 0) (Nat.le_of_ble_eq_true rfl) (Nat.le_of_ble_eq_true rfl) ?_
  exact W.iret (v := 0) hx hb hr (fun t ht hW => ⟨⟨0, (), rfl, rfl, trivial⟩, hS.F ht⟩) hS.2.2 dX11_flush_45
