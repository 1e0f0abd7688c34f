set_option maxHeartbeats 4000000 in
set_option maxRecDepth 100000 in
theorem x_has (l : Launch) (D : va_G) (cI cZ cC cJ : ClassId) (ly : Nat) (rY : Nat → Nat) (ho : Nat) (lru : Nat) (fh : Nat → Int32) (hfh : ∀ j, j < 26 → fh j = -1) (f : Int32) (sz : Nat) : Met l yX4_has wsX4_has ({ frames := 0, cells := 0, slots := 0, locals := 0 }) (va_Pc [.ref ly, .int f] (fun U => U.heap.size = sz ∧ va_P D vwCl [(ly, .inr (4, [.int 0, .ref (rY 0), .ref (rY 1), .ref (rY 2), .ref (rY 3), .ref (rY 4), .ref (rY 5), .ref ho, .ref (rY 6), .ref (rY 7), .ref (rY 8), .ref (rY 9), .ref lru])), (ho, .inl (cI, 26, .inl fh))] U.heap ∧ va_K D vwCl [(cI, .int), (cZ, .boolean), (cC, .char), (cJ, .long)] U ∧ va_D (fun _ => True) [(ly, .inr (4, [.int 0, .ref (rY 0), .ref (rY 1), .ref (rY 2), .ref (rY 3), .ref (rY 4), .ref (rY 5), .ref ho, .ref (rY 6), .ref (rY 7), .ref (rY 8), .ref (rY 9), .ref lru])), (ho, .inl (cI, 26, .inl fh))])) (va_Qi (fun (r : Int32) (_ : Unit) => r = 0) (fun _ t => va_P D vwCl [(ly, .inr (4, [.int 0, .ref (rY 0), .ref (rY 1), .ref (rY 2), .ref (rY 3), .ref (rY 4), .ref (rY 5), .ref ho, .ref (rY 6), .ref (rY 7), .ref (rY 8), .ref (rY 9), .ref lru])), (ho, .inl (cI, 26, .inl fh))] t.heap ∧ va_D (va_A [(ly, .inr (4, [.int 0, .ref (rY 0), .ref (rY 1), .ref (rY 2), .ref (rY 3), .ref (rY 4), .ref (rY 5), .ref ho, .ref (rY 6), .ref (rY 7), .ref (rY 8), .ref (rY 9), .ref lru])), (ho, .inl (cI, 26, .inl fh))] sz) [(ly, .inr (4, [.int 0, .ref (rY 0), .ref (rY 1), .ref (rY 2), .ref (rY 3), .ref (rY 4), .ref (rY 5), .ref ho, .ref (rY 6), .ref (rY 7), .ref (rY 8), .ref (rY 9), .ref lru])), (ho, .inl (cI, 26, .inl fh))]) (va_A [(ly, .inr (4, [.int 0, .ref (rY 0), .ref (rY 1), .ref (rY 2), .ref (rY 3), .ref (rY 4), .ref (rY 5), .ref ho, .ref (rY 6), .ref (rY 7), .ref (rY 8), .ref (rY 9), .ref lru])), (ho, .inl (cI, 26, .inl fh))] sz)) 0 0 (va_A [(ly, .inr (4, [.int 0, .ref (rY 0), .ref (rY 1), .ref (rY 2), .ref (rY 3), .ref (rY 4), .ref (rY 5), .ref ho, .ref (rY 6), .ref (rY 7), .ref (rY 8), .ref (rY 9), .ref lru])), (ho, .inl (cI, 26, .inl fh))] sz) := by
  refine Met.ofW (cc := cX4_has) (maxL := 2) (ret := (some .boolean)) (by decide) rfl ?_
  intro p e s m args below meth c s₁ B hml hv
  obtain ⟨rfl, hsz, hP, hK, hD0⟩ := hv
  have hx := B.exec
  have hb := B.bytes
  have hr := B.returns
  have hgt := fun w (h : w ∈ GT) => atoms_spec (ws := wsX4_has) B.pre w (List.mem_cons_of_mem _ h)
  have hown : s.vm.findClass RX4 = some m.cls := findClass_of_methodNamed B.named
  have hlocks := B.notSynchronized
  subst hsz
  have hD := hD0.self (sz := s.heap.size)
  generalize hAe : va_A [(ly, .inr (4, [.int 0, .ref (rY 0), .ref (rY 1), .ref (rY 2), .ref (rY 3), .ref (rY 4), .ref (rY 5), .ref ho, .ref (rY 6), .ref (rY 7), .ref (rY 8), .ref (rY 9), .ref lru])), (ho, .inl (cI, 26, .inl fh))] s.heap.size = A at hD ⊢
  have hA : ∀ q : Nat, s.heap.size ≤ q → A q := fun q h => by rw [← hAe]; exact Or.inr h
  have hS : va_S A s.heap s.heap [] := va_S.rf
  have hP : va_P D vwCl [(ly, .inr (4, [.int 0, .ref (rY 0), .ref (rY 1), .ref (rY 2), .ref (rY 3), .ref (rY 4), .ref (rY 5), .ref ho, .ref (rY 6), .ref (rY 7), .ref (rY 8), .ref (rY 9), .ref lru])), (ho, .inl (cI, 26, .inl fh))] s.heap := hP
  have hl := lv_entry ([.ref ly, .int f]) (n := 2) (Nat.le_of_ble_eq_true rfl)
  rw [lg_entry_eq]
  generalize (lg_sl ([.ref ly, .int f]) ++ List.replicate (2 - (lg_sl ([.ref ly, .int f])).length) Slot.unset).toArray = ls at hl ⊢
  have hl : lv_has ls 2 [(0, .ref ly), (1, .int f)] := hl
  refine lv_iload_n hx hb dX4_has_0 rfl (lv_at hl 1 rfl) ?_
  refine lv_if_lt hx hb dX4_has_1 (tgt := 24) rfl (fun h_1 => ?_) (fun h_1 => ?_)
  · skip
    refine lv_iconst (v := 0) hx hb dX4_has_24 (by decide) ?_
    have hP9 := hP.sub (ws' := [(ly, .inr (4, [.int 0, .ref (rY 0), .ref (rY 1), .ref (rY 2), .ref (rY 3), .ref (rY 4), .ref (rY 5), .ref ho, .ref (rY 6), .ref (rY 7), .ref (rY 8), .ref (rY 9), .ref lru])), (ho, .inl (cI, 26, .inl fh))]) [0, 1] rfl
    have hD9 := hD.sub (ws' := [(ly, .inr (4, [.int 0, .ref (rY 0), .ref (rY 1), .ref (rY 2), .ref (rY 3), .ref (rY 4), .ref (rY 5), .ref ho, .ref (rY 6), .ref (rY 7), .ref (rY 8), .ref (rY 9), .ref lru])), (ho, .inl (cI, 26, .inl fh))]) [0, 1] (by decide) rfl
    refine W.widen (k := 0) (n := 0) (Nat.le_of_ble_eq_true rfl) (Nat.le_of_ble_eq_true rfl) ?_
    exact W.zret (v := 0) (ty := .boolean) hx hb hr (by decide) (fun t ht hW => ⟨⟨0, (), rfl, rfl, by rw [ht]; exact hP9, hD9⟩, hS.F ht⟩) hS.2.2 dX4_has_25
  · skip
    refine lv_iload_n hx hb dX4_has_4 rfl (lv_at hl 1 rfl) ?_
    refine lv_bipush (v := 26) hx hb dX4_has_5 (by decide) ?_
    refine lv_icmp_ge hx hb dX4_has_7 (tgt := 24) rfl (fun h_7 => ?_) (fun h_7 => ?_)
    · skip
      refine lv_iconst (v := 0) hx hb dX4_has_24 (by decide) ?_
      have hP9 := hP.sub (ws' := [(ly, .inr (4, [.int 0, .ref (rY 0), .ref (rY 1), .ref (rY 2), .ref (rY 3), .ref (rY 4), .ref (rY 5), .ref ho, .ref (rY 6), .ref (rY 7), .ref (rY 8), .ref (rY 9), .ref lru])), (ho, .inl (cI, 26, .inl fh))]) [0, 1] rfl
      have hD9 := hD.sub (ws' := [(ly, .inr (4, [.int 0, .ref (rY 0), .ref (rY 1), .ref (rY 2), .ref (rY 3), .ref (rY 4), .ref (rY 5), .ref ho, .ref (rY 6), .ref (rY 7), .ref (rY 8), .ref (rY 9), .ref lru])), (ho, .inl (cI, 26, .inl fh))]) [0, 1] (by decide) rfl
      refine W.widen (k := 0) (n := 0) (Nat.le_of_ble_eq_true rfl) (Nat.le_of_ble_eq_true rfl) ?_
      exact W.zret (v := 0) (ty := .boolean) hx hb hr (by decide) (fun t ht hW => ⟨⟨0, (), rfl, rfl, by rw [ht]; exact hP9, hD9⟩, hS.F ht⟩) hS.2.2 dX4_has_25
    · skip
      refine lv_aload_n hx hb dX4_has_10 rfl (lv_at hl 0 rfl) ?_
      refine va_get (D := D) (ci := 4) (v := .ref ho) (C := RX4) (T := TX4) (N := 13) hx hb hgt iwX4 hown hK hP 0 rfl rfl 7 (Nat.le_of_ble_eq_true rfl) (hgt _ wd_1_25) (fun _ h9 => h9) rfl dX4_has_11 ?_
      refine lv_iload_n hx hb dX4_has_14 rfl (lv_at hl 1 rfl) ?_
      refine va_iald hx hb hK hP 1 0 rfl rfl (vi_of (N := 26) (by decide) h_1 h_7) dX4_has_15 ?_
      refine lv_iconst (v := (-1)) hx hb dX4_has_16 (by decide) ?_
      refine lv_icmp_eq hx hb dX4_has_17 (tgt := 24) rfl (fun _ => ?_) (fun h_17 => absurd (hfh _ (vi_lt (vi_of (N := 26) (by decide) h_1 h_7))) h_17)
      refine lv_iconst (v := 0) hx hb dX4_has_24 (by decide) ?_
      have hP9 := hP.sub (ws' := [(ly, .inr (4, [.int 0, .ref (rY 0), .ref (rY 1), .ref (rY 2), .ref (rY 3), .ref (rY 4), .ref (rY 5), .ref ho, .ref (rY 6), .ref (rY 7), .ref (rY 8), .ref (rY 9), .ref lru])), (ho, .inl (cI, 26, .inl fh))]) [0, 1] rfl
      have hD9 := hD.sub (ws' := [(ly, .inr (4, [.int 0, .ref (rY 0), .ref (rY 1), .ref (rY 2), .ref (rY 3), .ref (rY 4), .ref (rY 5), .ref ho, .ref (rY 6), .ref (rY 7), .ref (rY 8), .ref (rY 9), .ref lru])), (ho, .inl (cI, 26, .inl fh))]) [0, 1] (by decide) rfl
      refine W.widen (k := 0) (n := 0) (Nat.le_of_ble_eq_true rfl) (Nat.le_of_ble_eq_true rfl) ?_
      exact W.zret (v := 0) (ty := .boolean) hx hb hr (by decide) (fun t ht hW => ⟨⟨0, (), rfl, rfl, by rw [ht]; exact hP9, hD9⟩, hS.F ht⟩) hS.2.2 dX4_has_25
set_option maxHeartbeats 4000000 in
set_option maxRecDepth 100000 in
theorem x_hasMap (l : Launch) (D : va_G) (cI cZ cC cJ : ClassId) (x : Nat) (dr : Nat) (rd : Nat) (jd : Nat) (ly : Nat) (dv : Nat) (pl : Nat) (jo : Nat) (sc : Nat) (ck : Nat) (rY : Nat → Nat) (ho : Nat) (lru : Nat) (sz : Nat) : Met l yX11_hasMap wsX11_hasMap ({ frames := 0, cells := 0, slots := 0, locals := 0 }) (va_Pc [.ref x] (fun U => U.heap.size = sz ∧ va_P D vwCl [(x, .inr (11, [.ref dr, .ref rd, .ref jd, .ref ly, .ref dv, .ref pl, .ref jo, .ref sc, .ref ck])), (ly, .inr (4, [.int 0, .ref (rY 0), .ref (rY 1), .ref (rY 2), .ref (rY 3), .ref (rY 4), .ref (rY 5), .ref ho, .ref (rY 6), .ref (rY 7), .ref (rY 8), .ref (rY 9), .ref lru]))] U.heap ∧ va_K D vwCl [(cI, .int), (cZ, .boolean), (cC, .char), (cJ, .long)] U ∧ va_D (fun _ => True) [(x, .inr (11, [.ref dr, .ref rd, .ref jd, .ref ly, .ref dv, .ref pl, .ref jo, .ref sc, .ref ck])), (ly, .inr (4, [.int 0, .ref (rY 0), .ref (rY 1), .ref (rY 2), .ref (rY 3), .ref (rY 4), .ref (rY 5), .ref ho, .ref (rY 6), .ref (rY 7), .ref (rY 8), .ref (rY 9), .ref lru]))])) (va_Qi (fun (r : Int32) (_ : Unit) => r = 0) (fun _ t => va_P D vwCl [(x, .inr (11, [.ref dr, .ref rd, .ref jd, .ref ly, .ref dv, .ref pl, .ref jo, .ref sc, .ref ck])), (ly, .inr (4, [.int 0, .ref (rY 0), .ref (rY 1), .ref (rY 2), .ref (rY 3), .ref (rY 4), .ref (rY 5), .ref ho, .ref (rY 6), .ref (rY 7), .ref (rY 8), .ref (rY 9), .ref lru]))] t.heap ∧ va_D (va_A [(x, .inr (11, [.ref dr, .ref rd, .ref jd, .ref ly, .ref dv, .ref pl, .ref jo, .ref sc, .ref ck])), (ly, .inr (4, [.int 0, .ref (rY 0), .ref (rY 1), .ref (rY 2), .ref (rY 3), .ref (rY 4), .ref (rY 5), .ref ho, .ref (rY 6), .ref (rY 7), .ref (rY 8), .ref (rY 9), .ref lru]))] sz) [(x, .inr (11, [.ref dr, .ref rd, .ref jd, .ref ly, .ref dv, .ref pl, .ref jo, .ref sc, .ref ck])), (ly, .inr (4, [.int 0, .ref (rY 0), .ref (rY 1), .ref (rY 2), .ref (rY 3), .ref (rY 4), .ref (rY 5), .ref ho, .ref (rY 6), .ref (rY 7), .ref (rY 8), .ref (rY 9), .ref lru]))]) (va_A [(x, .inr (11, [.ref dr, .ref rd, .ref jd, .ref ly, .ref dv, .ref pl, .ref jo, .ref sc, .ref ck])), (ly, .inr (4, [.int 0, .ref (rY 0), .ref (rY 1), .ref (rY 2), .ref (rY 3), .ref (rY 4), .ref (rY 5), .ref ho, .ref (rY 6), .ref (rY 7), .ref (rY 8), .ref (rY 9), .ref lru]))] sz)) 0 0 (va_A [(x, .inr (11, [.ref dr, .ref rd, .ref jd, .ref ly, .ref dv, .ref pl, .ref jo, .ref sc, .ref ck])), (ly, .inr (4, [.int 0, .ref (rY 0), .ref (rY 1), .ref (rY 2), .ref (rY 3), .ref (rY 4), .ref (rY 5), .ref ho, .ref (rY 6), .ref (rY 7), .ref (rY 8), .ref (rY 9), .ref lru]))] sz) := by
  refine Met.ofW (cc := cX11_hasMap) (maxL := 1) (ret := (some .boolean)) (by decide) rfl ?_
  intro p e s m args below meth c s₁ B hml hv
  obtain ⟨rfl, hsz, hP, hK, hD0⟩ := hv
  have hx := B.exec
  have hb := B.bytes
  have hr := B.returns
  have hgt := fun w (h : w ∈ GT) => atoms_spec (ws := wsX11_hasMap) B.pre w (List.mem_cons_of_mem _ h)
  have hown : s.vm.findClass RX11 = some m.cls := findClass_of_methodNamed B.named
  have hlocks := B.notSynchronized
  subst hsz
  have hD := hD0.self (sz := s.heap.size)
  generalize hAe : va_A [(x, .inr (11, [.ref dr, .ref rd, .ref jd, .ref ly, .ref dv, .ref pl, .ref jo, .ref sc, .ref ck])), (ly, .inr (4, [.int 0, .ref (rY 0), .ref (rY 1), .ref (rY 2), .ref (rY 3), .ref (rY 4), .ref (rY 5), .ref ho, .ref (rY 6), .ref (rY 7), .ref (rY 8), .ref (rY 9), .ref lru]))] s.heap.size = A at hD ⊢
  have hA : ∀ q : Nat, s.heap.size ≤ q → A q := fun q h => by rw [← hAe]; exact Or.inr h
  have hS : va_S A s.heap s.heap [] := va_S.rf
  have hP : va_P D vwCl [(x, .inr (11, [.ref dr, .ref rd, .ref jd, .ref ly, .ref dv, .ref pl, .ref jo, .ref sc, .ref ck])), (ly, .inr (4, [.int 0, .ref (rY 0), .ref (rY 1), .ref (rY 2), .ref (rY 3), .ref (rY 4), .ref (rY 5), .ref ho, .ref (rY 6), .ref (rY 7), .ref (rY 8), .ref (rY 9), .ref lru]))] s.heap := hP
  have hl := lv_entry ([.ref x]) (n := 1) (Nat.le_of_ble_eq_true rfl)
  rw [lg_entry_eq]
  generalize (lg_sl ([.ref x]) ++ List.replicate (1 - (lg_sl ([.ref x])).length) Slot.unset).toArray = ls at hl ⊢
  have hl : lv_has ls 1 [(0, .ref x)] := hl
  refine lv_aload_n hx hb dX11_hasMap_0 rfl (lv_at hl 0 rfl) ?_
  refine va_get (D := D) (ci := 11) (v := .ref ly) (C := RX11) (T := TX11) (N := 9) hx hb hgt iwX11 hown hK hP 0 rfl rfl 3 (Nat.le_of_ble_eq_true rfl) (hgt _ wd_2_20) (fun _ h9 => h9) rfl dX11_hasMap_1 ?_
  refine va_get (D := D) (ci := 4) (v := .int 0) (C := RX4) (T := TX4) (N := 13) hx hb hgt iwX4 hown hK hP 1 rfl rfl 0 (Nat.le_of_ble_eq_true rfl) (hgt _ wd_1_6) (fun _ h9 => h9) rfl dX11_hasMap_4 ?_
  refine lv_if_le hx hb dX11_hasMap_7 (tgt := 14) rfl (fun _ => ?_) (fun h_7 => absurd (by decide) h_7)
  refine lv_iconst (v := 0) hx hb dX11_hasMap_14 (by decide) ?_
  have hP9 := hP.sub (ws' := [(x, .inr (11, [.ref dr, .ref rd, .ref jd, .ref ly, .ref dv, .ref pl, .ref jo, .ref sc, .ref ck])), (ly, .inr (4, [.int 0, .ref (rY 0), .ref (rY 1), .ref (rY 2), .ref (rY 3), .ref (rY 4), .ref (rY 5), .ref ho, .ref (rY 6), .ref (rY 7), .ref (rY 8), .ref (rY 9), .ref lru]))]) [0, 1] rfl
  have hD9 := hD.sub (ws' := [(x, .inr (11, [.ref dr, .ref rd, .ref jd, .ref ly, .ref dv, .ref pl, .ref jo, .ref sc, .ref ck])), (ly, .inr (4, [.int 0, .ref (rY 0), .ref (rY 1), .ref (rY 2), .ref (rY 3), .ref (rY 4), .ref (rY 5), .ref ho, .ref (rY 6), .ref (rY 7), .ref (rY 8), .ref (rY 9), .ref lru]))]) [0, 1] (by decide) rfl
  refine W.widen (k := 0) (n := 0) (Nat.le_of_ble_eq_true rfl) (Nat.le_of_ble_eq_true rfl) ?_
  exact W.zret (v := 0) (ty := .boolean) hx hb hr (by decide) (fun t ht hW => ⟨⟨0, (), rfl, rfl, by rw [ht]; exact hP9, hD9⟩, hS.F ht⟩) hS.2.2 dX11_hasMap_15
set_option maxHeartbeats 4000000 in
set_option maxRecDepth 100000 in
theorem x_canPut (l : Launch) (D : va_G) (cI cZ cC cJ : ClassId) (ly : Nat) (rY : Nat → Nat) (ho : Nat) (lru : Nat) (fh : Nat → Int32) (hfh : ∀ j, j < 26 → fh j = -1) (f : Int32) (v : Int32) (sz : Nat) : Met l yX4_canPut wsX4_canPut ({ frames := 1, cells := 0, slots := 0, locals := 21 }) (va_Pc [.ref ly, .int f, .int v] (fun U => U.heap.size = sz ∧ va_P D vwCl [(ly, .inr (4, [.int 0, .ref (rY 0), .ref (rY 1), .ref (rY 2), .ref (rY 3), .ref (rY 4), .ref (rY 5), .ref ho, .ref (rY 6), .ref (rY 7), .ref (rY 8), .ref (rY 9), .ref lru])), (ho, .inl (cI, 26, .inl fh))] U.heap ∧ va_K D vwCl [(cI, .int), (cZ, .boolean), (cC, .char), (cJ, .long)] U ∧ va_D (fun _ => True) [(ly, .inr (4, [.int 0, .ref (rY 0), .ref (rY 1), .ref (rY 2), .ref (rY 3), .ref (rY 4), .ref (rY 5), .ref ho, .ref (rY 6), .ref (rY 7), .ref (rY 8), .ref (rY 9), .ref lru])), (ho, .inl (cI, 26, .inl fh))])) (va_Qi (fun (r : Int32) (_ : Unit) => r = 0) (fun _ _ => True) (va_A [(ly, .inr (4, [.int 0, .ref (rY 0), .ref (rY 1), .ref (rY 2), .ref (rY 3), .ref (rY 4), .ref (rY 5), .ref ho, .ref (rY 6), .ref (rY 7), .ref (rY 8), .ref (rY 9), .ref lru])), (ho, .inl (cI, 26, .inl fh))] sz)) 0 0 (va_A [(ly, .inr (4, [.int 0, .ref (rY 0), .ref (rY 1), .ref (rY 2), .ref (rY 3), .ref (rY 4), .ref (rY 5), .ref ho, .ref (rY 6), .ref (rY 7), .ref (rY 8), .ref (rY 9), .ref lru])), (ho, .inl (cI, 26, .inl fh))] sz) := by
  refine Met.ofW (cc := cX4_canPut) (maxL := 3) (ret := (some .boolean)) (by decide) rfl ?_
  intro p e s m args below meth c s₁ B hml hv
  obtain ⟨rfl, hsz, hP, hK, hD0⟩ := hv
  have hx := B.exec
  have hb := B.bytes
  have hr := B.returns
  have hgt := fun w (h : w ∈ GT) => atoms_spec (ws := wsX4_canPut) B.pre w (List.mem_cons_of_mem _ h)
  have hown : s.vm.findClass RX4 = some m.cls := findClass_of_methodNamed B.named
  have hlocks := B.notSynchronized
  subst hsz
  have hD := hD0.self (sz := s.heap.size)
  generalize hAe : va_A [(ly, .inr (4, [.int 0, .ref (rY 0), .ref (rY 1), .ref (rY 2), .ref (rY 3), .ref (rY 4), .ref (rY 5), .ref ho, .ref (rY 6), .ref (rY 7), .ref (rY 8), .ref (rY 9), .ref lru])), (ho, .inl (cI, 26, .inl fh))] s.heap.size = A at hD ⊢
  have hA : ∀ q : Nat, s.heap.size ≤ q → A q := fun q h => by rw [← hAe]; exact Or.inr h
  have hS : va_S A s.heap s.heap [] := va_S.rf
  have hP : va_P D vwCl [(ly, .inr (4, [.int 0, .ref (rY 0), .ref (rY 1), .ref (rY 2), .ref (rY 3), .ref (rY 4), .ref (rY 5), .ref ho, .ref (rY 6), .ref (rY 7), .ref (rY 8), .ref (rY 9), .ref lru])), (ho, .inl (cI, 26, .inl fh))] s.heap := hP
  have hl := lv_entry ([.ref ly, .int f, .int v]) (n := 3) (Nat.le_of_ble_eq_true rfl)
  rw [lg_entry_eq]
  generalize (lg_sl ([.ref ly, .int f, .int v]) ++ List.replicate (3 - (lg_sl ([.ref ly, .int f, .int v])).length) Slot.unset).toArray = ls at hl ⊢
  have hl : lv_has ls 3 [(0, .ref ly), (1, .int f), (2, .int v)] := hl
  refine lv_aload_n hx hb dX4_canPut_0 rfl (lv_at hl 0 rfl) ?_
  refine lv_iload_n hx hb dX4_canPut_1 rfl (lv_at hl 1 rfl) ?_
  have hPc := hP.sub (ws' := [(ly, .inr (4, [.int 0, .ref (rY 0), .ref (rY 1), .ref (rY 2), .ref (rY 3), .ref (rY 4), .ref (rY 5), .ref ho, .ref (rY 6), .ref (rY 7), .ref (rY 8), .ref (rY 9), .ref lru])), (ho, .inl (cI, 26, .inl fh))]) [0, 1] rfl
  have hDc := hD.sub (ws' := [(ly, .inr (4, [.int 0, .ref (rY 0), .ref (rY 1), .ref (rY 2), .ref (rY 3), .ref (rY 4), .ref (rY 5), .ref ho, .ref (rY 6), .ref (rY 7), .ref (rY 8), .ref (rY 9), .ref lru])), (ho, .inl (cI, 26, .inl fh))]) [0, 1] (by decide) rfl
  have hFc := va_free (wc := [(ly, .inr (4, [.int 0, .ref (rY 0), .ref (rY 1), .ref (rY 2), .ref (rY 3), .ref (rY 4), .ref (rY 5), .ref ho, .ref (rY 6), .ref (rY 7), .ref (rY 8), .ref (rY 9), .ref lru])), (ho, .inl (cI, 26, .inl fh))]) hD hS hA [0, 1] rfl
  refine va_calli (va_runV (As := [.int f]) (rest := []) ⟨hx, hb, hml, hown, hgt⟩ (x_has l D cI cZ cC cJ ly rY ho lru fh hfh f s.heap.size) (cwV 1 hgt (gV wd_2_182 wd_2_65 wd_2_66 wd_0_6 wd_2_67) rfl rfl rfl (by decide +kernel) ⟨Nat.le_of_ble_eq_true rfl, Nat.le_of_ble_eq_true rfl⟩) ⟨fun a U g mk q => by obtain ⟨q0, q1, qP, qK, qD⟩ := q; exact ⟨q0, q1, qP, va_K.moved (u := U) (U := U.calling g mk a) (Vm.Alike.refl U.vm) qK, qD⟩, va_recv hK hP (ci := 4) (q0 := 0) rfl rfl, fun U hU hW => ⟨rfl, by rw [hU], by rw [hU]; exact hPc, va_K.moved hW.alike hK, hDc.weaken (fun _ _ _ _ => trivial)⟩⟩ rfl rfl hl.1 rfl (lv_room (Nat.le_of_ble_eq_true rfl)) dX4_canPut_2 ⟨Nat.le_of_ble_eq_true rfl, Nat.le_of_ble_eq_true rfl⟩) hS (fun q _ h => hFc q h) hFc (fun r u t H1 locs ht hvm hw hB hz1 hk1 hS => ?_)
  obtain ⟨hP1, hD1⟩ := hB
  rw [ht] at hP1
  obtain ⟨hP, hD⟩ := va_join (wr := []) (w1 := [(ly, .inr (4, [.int 0, .ref (rY 0), .ref (rY 1), .ref (rY 2), .ref (rY 3), .ref (rY 4), .ref (rY 5), .ref ho, .ref (rY 6), .ref (rY 7), .ref (rY 8), .ref (rY 9), .ref lru])), (ho, .inl (cI, 26, .inl fh))]) hP hD [0, 1] [] rfl rfl (by decide) (by decide) hk1 hFc hP1 hD1
  generalize H1 = H at hP hS ⊢
  have hP : va_P D vwCl [(ly, .inr (4, [.int 0, .ref (rY 0), .ref (rY 1), .ref (rY 2), .ref (rY 3), .ref (rY 4), .ref (rY 5), .ref ho, .ref (rY 6), .ref (rY 7), .ref (rY 8), .ref (rY 9), .ref lru])), (ho, .inl (cI, 26, .inl fh))] H := hP
  have hD : va_D A [(ly, .inr (4, [.int 0, .ref (rY 0), .ref (rY 1), .ref (rY 2), .ref (rY 3), .ref (rY 4), .ref (rY 5), .ref ho, .ref (rY 6), .ref (rY 7), .ref (rY 8), .ref (rY 9), .ref lru])), (ho, .inl (cI, 26, .inl fh))] := hD
  obtain rfl : r = 0 := hw
  refine lv_if_eq hx hb dX4_canPut_5 (tgt := 41) rfl (fun _ => ?_) (fun h_5 => absurd (by decide) h_5)
  refine lv_iconst (v := 0) hx hb dX4_canPut_41 (by decide) ?_
  refine W.widen (k := 0) (n := 0) (Nat.le_of_ble_eq_true rfl) (Nat.le_of_ble_eq_true rfl) ?_
  exact W.zret (v := 0) (ty := .boolean) hx hb hr (by decide) (fun t ht hW => ⟨⟨0, (), rfl, rfl, trivial⟩, hS.F ht⟩) hS.2.2 dX4_canPut_42
set_option maxHeartbeats 4000000 in
set_option maxRecDepth 100000 in
theorem x_canFetch (l : Launch) (D : va_G) (cI cZ cC cJ : ClassId) (ly : Nat) (rY : Nat → Nat) (ho : Nat) (lru : Nat) (fh : Nat → Int32) (hfh : ∀ j, j < 26 → fh j = -1) (f : Int32) (sz : Nat) : Met l yX4_canFetch wsX4_canFetch ({ frames := 1, cells := 0, slots := 0, locals := 21 }) (va_Pc [.ref ly, .int f] (fun U => U.heap.size = sz ∧ va_P D vwCl [(ly, .inr (4, [.int 0, .ref (rY 0), .ref (rY 1), .ref (rY 2), .ref (rY 3), .ref (rY 4), .ref (rY 5), .ref ho, .ref (rY 6), .ref (rY 7), .ref (rY 8), .ref (rY 9), .ref lru])), (ho, .inl (cI, 26, .inl fh))] U.heap ∧ va_K D vwCl [(cI, .int), (cZ, .boolean), (cC, .char), (cJ, .long)] U ∧ va_D (fun _ => True) [(ly, .inr (4, [.int 0, .ref (rY 0), .ref (rY 1), .ref (rY 2), .ref (rY 3), .ref (rY 4), .ref (rY 5), .ref ho, .ref (rY 6), .ref (rY 7), .ref (rY 8), .ref (rY 9), .ref lru])), (ho, .inl (cI, 26, .inl fh))])) (va_Qi (fun (r : Int32) (_ : Unit) => r = 0) (fun _ t => va_P D vwCl [(ly, .inr (4, [.int 0, .ref (rY 0), .ref (rY 1), .ref (rY 2), .ref (rY 3), .ref (rY 4), .ref (rY 5), .ref ho, .ref (rY 6), .ref (rY 7), .ref (rY 8), .ref (rY 9), .ref lru])), (ho, .inl (cI, 26, .inl fh))] t.heap ∧ va_D (va_A [(ly, .inr (4, [.int 0, .ref (rY 0), .ref (rY 1), .ref (rY 2), .ref (rY 3), .ref (rY 4), .ref (rY 5), .ref ho, .ref (rY 6), .ref (rY 7), .ref (rY 8), .ref (rY 9), .ref lru])), (ho, .inl (cI, 26, .inl fh))] sz) [(ly, .inr (4, [.int 0, .ref (rY 0), .ref (rY 1), .ref (rY 2), .ref (rY 3), .ref (rY 4), .ref (rY 5), .ref ho, .ref (rY 6), .ref (rY 7), .ref (rY 8), .ref (rY 9), .ref lru])), (ho, .inl (cI, 26, .inl fh))]) (va_A [(ly, .inr (4, [.int 0, .ref (rY 0), .ref (rY 1), .ref (rY 2), .ref (rY 3), .ref (rY 4), .ref (rY 5), .ref ho, .ref (rY 6), .ref (rY 7), .ref (rY 8), .ref (rY 9), .ref lru])), (ho, .inl (cI, 26, .inl fh))] sz)) 0 0 (va_A [(ly, .inr (4, [.int 0, .ref (rY 0), .ref (rY 1), .ref (rY 2), .ref (rY 3), .ref (rY 4), .ref (rY 5), .ref ho, .ref (rY 6), .ref (rY 7), .ref (rY 8), .ref (rY 9), .ref lru])), (ho, .inl (cI, 26, .inl fh))] sz) := by
  refine Met.ofW (cc := cX4_canFetch) (maxL := 2) (ret := (some .boolean)) (by decide) rfl ?_
  intro p e s m args below meth c s₁ B hml hv
  obtain ⟨rfl, hsz, hP, hK, hD0⟩ := hv
  have hx := B.exec
  have hb := B.bytes
  have hr := B.returns
  have hgt := fun w (h : w ∈ GT) => atoms_spec (ws := wsX4_canFetch) B.pre w (List.mem_cons_of_mem _ h)
  have hown : s.vm.findClass RX4 = some m.cls := findClass_of_methodNamed B.named
  have hlocks := B.notSynchronized
  subst hsz
  have hD := hD0.self (sz := s.heap.size)
  generalize hAe : va_A [(ly, .inr (4, [.int 0, .ref (rY 0), .ref (rY 1), .ref (rY 2), .ref (rY 3), .ref (rY 4), .ref (rY 5), .ref ho, .ref (rY 6), .ref (rY 7), .ref (rY 8), .ref (rY 9), .ref lru])), (ho, .inl (cI, 26, .inl fh))] s.heap.size = A at hD ⊢
  have hA : ∀ q : Nat, s.heap.size ≤ q → A q := fun q h => by rw [← hAe]; exact Or.inr h
  have hS : va_S A s.heap s.heap [] := va_S.rf
  have hP : va_P D vwCl [(ly, .inr (4, [.int 0, .ref (rY 0), .ref (rY 1), .ref (rY 2), .ref (rY 3), .ref (rY 4), .ref (rY 5), .ref ho, .ref (rY 6), .ref (rY 7), .ref (rY 8), .ref (rY 9), .ref lru])), (ho, .inl (cI, 26, .inl fh))] s.heap := hP
  have hl := lv_entry ([.ref ly, .int f]) (n := 2) (Nat.le_of_ble_eq_true rfl)
  rw [lg_entry_eq]
  generalize (lg_sl ([.ref ly, .int f]) ++ List.replicate (2 - (lg_sl ([.ref ly, .int f])).length) Slot.unset).toArray = ls at hl ⊢
  have hl : lv_has ls 2 [(0, .ref ly), (1, .int f)] := hl
  refine lv_aload_n hx hb dX4_canFetch_0 rfl (lv_at hl 0 rfl) ?_
  refine lv_iload_n hx hb dX4_canFetch_1 rfl (lv_at hl 1 rfl) ?_
  have hPc := hP.sub (ws' := [(ly, .inr (4, [.int 0, .ref (rY 0), .ref (rY 1), .ref (rY 2), .ref (rY 3), .ref (rY 4), .ref (rY 5), .ref ho, .ref (rY 6), .ref (rY 7), .ref (rY 8), .ref (rY 9), .ref lru])), (ho, .inl (cI, 26, .inl fh))]) [0, 1] rfl
  have hDc := hD.sub (ws' := [(ly, .inr (4, [.int 0, .ref (rY 0), .ref (rY 1), .ref (rY 2), .ref (rY 3), .ref (rY 4), .ref (rY 5), .ref ho, .ref (rY 6), .ref (rY 7), .ref (rY 8), .ref (rY 9), .ref lru])), (ho, .inl (cI, 26, .inl fh))]) [0, 1] (by decide) rfl
  have hFc := va_free (wc := [(ly, .inr (4, [.int 0, .ref (rY 0), .ref (rY 1), .ref (rY 2), .ref (rY 3), .ref (rY 4), .ref (rY 5), .ref ho, .ref (rY 6), .ref (rY 7), .ref (rY 8), .ref (rY 9), .ref lru])), (ho, .inl (cI, 26, .inl fh))]) hD hS hA [0, 1] rfl
  refine va_calli (va_runV (As := [.int f]) (rest := []) ⟨hx, hb, hml, hown, hgt⟩ (x_has l D cI cZ cC cJ ly rY ho lru fh hfh f s.heap.size) (cwV 1 hgt (gV wd_2_182 wd_2_65 wd_2_66 wd_0_6 wd_2_67) rfl rfl rfl (by decide +kernel) ⟨Nat.le_of_ble_eq_true rfl, Nat.le_of_ble_eq_true rfl⟩) ⟨fun a U g mk q => by obtain ⟨q0, q1, qP, qK, qD⟩ := q; exact ⟨q0, q1, qP, va_K.moved (u := U) (U := U.calling g mk a) (Vm.Alike.refl U.vm) qK, qD⟩, va_recv hK hP (ci := 4) (q0 := 0) rfl rfl, fun U hU hW => ⟨rfl, by rw [hU], by rw [hU]; exact hPc, va_K.moved hW.alike hK, hDc.weaken (fun _ _ _ _ => trivial)⟩⟩ rfl rfl hl.1 rfl (lv_room (Nat.le_of_ble_eq_true rfl)) dX4_canFetch_2 ⟨Nat.le_of_ble_eq_true rfl, Nat.le_of_ble_eq_true rfl⟩) hS (fun q _ h => hFc q h) hFc (fun r u t H1 locs ht hvm hw hB hz1 hk1 hS => ?_)
  obtain ⟨hP1, hD1⟩ := hB
  rw [ht] at hP1
  obtain ⟨hP, hD⟩ := va_join (wr := []) (w1 := [(ly, .inr (4, [.int 0, .ref (rY 0), .ref (rY 1), .ref (rY 2), .ref (rY 3), .ref (rY 4), .ref (rY 5), .ref ho, .ref (rY 6), .ref (rY 7), .ref (rY 8), .ref (rY 9), .ref lru])), (ho, .inl (cI, 26, .inl fh))]) hP hD [0, 1] [] rfl rfl (by decide) (by decide) hk1 hFc hP1 hD1
  generalize H1 = H at hP hS ⊢
  have hP : va_P D vwCl [(ly, .inr (4, [.int 0, .ref (rY 0), .ref (rY 1), .ref (rY 2), .ref (rY 3), .ref (rY 4), .ref (rY 5), .ref ho, .ref (rY 6), .ref (rY 7), .ref (rY 8), .ref (rY 9), .ref lru])), (ho, .inl (cI, 26, .inl fh))] H := hP
  have hD : va_D A [(ly, .inr (4, [.int 0, .ref (rY 0), .ref (rY 1), .ref (rY 2), .ref (rY 3), .ref (rY 4), .ref (rY 5), .ref ho, .ref (rY 6), .ref (rY 7), .ref (rY 8), .ref (rY 9), .ref lru])), (ho, .inl (cI, 26, .inl fh))] := hD
  obtain rfl : r = 0 := hw
  refine lv_if_eq hx hb dX4_canFetch_5 (tgt := 22) rfl (fun _ => ?_) (fun h_5 => absurd (by decide) h_5)
  refine lv_iconst (v := 0) hx hb dX4_canFetch_22 (by decide) ?_
  have hP9 := hP.sub (ws' := [(ly, .inr (4, [.int 0, .ref (rY 0), .ref (rY 1), .ref (rY 2), .ref (rY 3), .ref (rY 4), .ref (rY 5), .ref ho, .ref (rY 6), .ref (rY 7), .ref (rY 8), .ref (rY 9), .ref lru])), (ho, .inl (cI, 26, .inl fh))]) [0, 1] rfl
  have hD9 := hD.sub (ws' := [(ly, .inr (4, [.int 0, .ref (rY 0), .ref (rY 1), .ref (rY 2), .ref (rY 3), .ref (rY 4), .ref (rY 5), .ref ho, .ref (rY 6), .ref (rY 7), .ref (rY 8), .ref (rY 9), .ref lru])), (ho, .inl (cI, 26, .inl fh))]) [0, 1] (by decide) rfl
  refine W.widen (k := 0) (n := 0) (Nat.le_of_ble_eq_true rfl) (Nat.le_of_ble_eq_true rfl) ?_
  exact W.zret (v := 0) (ty := .boolean) hx hb hr (by decide) (fun t ht hW => ⟨⟨0, (), rfl, rfl, by rw [ht]; exact hP9, hD9⟩, hS.F ht⟩) hS.2.2 dX4_canFetch_23
set_option maxHeartbeats 4000000 in
set_option maxRecDepth 100000 in
theorem x_field (l : Launch) (D : va_G) (cI cZ cC cJ : ClassId) (x : Nat) (dr : Nat) (rd : Nat) (jd : Nat) (ly : Nat) (dv : Nat) (pl : Nat) (jo : Nat) (sc : Nat) (ck : Nat) (rY : Nat → Nat) (ho : Nat) (lru : Nat) (fh : Nat → Int32) (hfh : ∀ j, j < 26 → fh j = -1) (f : Int32) (v : Int32) (sz : Nat) : Met l yX11_field wsX11_field ({ frames := 1, cells := 0, slots := 0, locals := 21 }) (va_Pc [.ref x, .int f, .int v] (fun U => U.heap.size = sz ∧ va_P D vwCl [(x, .inr (11, [.ref dr, .ref rd, .ref jd, .ref ly, .ref dv, .ref pl, .ref jo, .ref sc, .ref ck])), (ly, .inr (4, [.int 0, .ref (rY 0), .ref (rY 1), .ref (rY 2), .ref (rY 3), .ref (rY 4), .ref (rY 5), .ref ho, .ref (rY 6), .ref (rY 7), .ref (rY 8), .ref (rY 9), .ref lru])), (ho, .inl (cI, 26, .inl fh))] U.heap ∧ va_K D vwCl [(cI, .int), (cZ, .boolean), (cC, .char), (cJ, .long)] U ∧ va_D (fun _ => True) [(x, .inr (11, [.ref dr, .ref rd, .ref jd, .ref ly, .ref dv, .ref pl, .ref jo, .ref sc, .ref ck])), (ly, .inr (4, [.int 0, .ref (rY 0), .ref (rY 1), .ref (rY 2), .ref (rY 3), .ref (rY 4), .ref (rY 5), .ref ho, .ref (rY 6), .ref (rY 7), .ref (rY 8), .ref (rY 9), .ref lru])), (ho, .inl (cI, 26, .inl fh))])) (va_Qi (fun (r : Int32) (_ : Unit) => r = (-1)) (fun _ _ => True) (va_A [(x, .inr (11, [.ref dr, .ref rd, .ref jd, .ref ly, .ref dv, .ref pl, .ref jo, .ref sc, .ref ck])), (ly, .inr (4, [.int 0, .ref (rY 0), .ref (rY 1), .ref (rY 2), .ref (rY 3), .ref (rY 4), .ref (rY 5), .ref ho, .ref (rY 6), .ref (rY 7), .ref (rY 8), .ref (rY 9), .ref lru])), (ho, .inl (cI, 26, .inl fh))] sz)) 0 0 (va_A [(x, .inr (11, [.ref dr, .ref rd, .ref jd, .ref ly, .ref dv, .ref pl, .ref jo, .ref sc, .ref ck])), (ly, .inr (4, [.int 0, .ref (rY 0), .ref (rY 1), .ref (rY 2), .ref (rY 3), .ref (rY 4), .ref (rY 5), .ref ho, .ref (rY 6), .ref (rY 7), .ref (rY 8), .ref (rY 9), .ref lru])), (ho, .inl (cI, 26, .inl fh))] sz) := by
  refine Met.ofW (cc := cX11_field) (maxL := 3) (ret := (some .int)) (by decide) rfl ?_
  intro p e s m args below meth c s₁ B hml hv
  obtain ⟨rfl, hsz, hP, hK, hD0⟩ := hv
  have hx := B.exec
  have hb := B.bytes
  have hr := B.returns
  have hgt := fun w (h : w ∈ GT) => atoms_spec (ws := wsX11_field) B.pre w (List.mem_cons_of_mem _ h)
  have hown : s.vm.findClass RX11 = some m.cls := findClass_of_methodNamed B.named
  have hlocks := B.notSynchronized
  subst hsz
  have hD := hD0.self (sz := s.heap.size)
  generalize hAe : va_A [(x, .inr (11, [.ref dr, .ref rd, .ref jd, .ref ly, .ref dv, .ref pl, .ref jo, .ref sc, .ref ck])), (ly, .inr (4, [.int 0, .ref (rY 0), .ref (rY 1), .ref (rY 2), .ref (rY 3), .ref (rY 4), .ref (rY 5), .ref ho, .ref (rY 6), .ref (rY 7), .ref (rY 8), .ref (rY 9), .ref lru])), (ho, .inl (cI, 26, .inl fh))] s.heap.size = A at hD ⊢
  have hA : ∀ q : Nat, s.heap.size ≤ q → A q := fun q h => by rw [← hAe]; exact Or.inr h
  have hS : va_S A s.heap s.heap [] := va_S.rf
  have hP : va_P D vwCl [(x, .inr (11, [.ref dr, .ref rd, .ref jd, .ref ly, .ref dv, .ref pl, .ref jo, .ref sc, .ref ck])), (ly, .inr (4, [.int 0, .ref (rY 0), .ref (rY 1), .ref (rY 2), .ref (rY 3), .ref (rY 4), .ref (rY 5), .ref ho, .ref (rY 6), .ref (rY 7), .ref (rY 8), .ref (rY 9), .ref lru])), (ho, .inl (cI, 26, .inl fh))] s.heap := hP
  have hl := lv_entry ([.ref x, .int f, .int v]) (n := 3) (Nat.le_of_ble_eq_true rfl)
  rw [lg_entry_eq]
  generalize (lg_sl ([.ref x, .int f, .int v]) ++ List.replicate (3 - (lg_sl ([.ref x, .int f, .int v])).length) Slot.unset).toArray = ls at hl ⊢
  have hl : lv_has ls 3 [(0, .ref x), (1, .int f), (2, .int v)] := hl
  refine lv_aload_n hx hb dX11_field_0 rfl (lv_at hl 0 rfl) ?_
  refine va_get (D := D) (ci := 11) (v := .ref ly) (C := RX11) (T := TX11) (N := 9) hx hb hgt iwX11 hown hK hP 0 rfl rfl 3 (Nat.le_of_ble_eq_true rfl) (hgt _ wd_2_20) (fun _ h9 => h9) rfl dX11_field_1 ?_
  refine lv_iload_n hx hb dX11_field_4 rfl (lv_at hl 1 rfl) ?_
  have hPc := hP.sub (ws' := [(ly, .inr (4, [.int 0, .ref (rY 0), .ref (rY 1), .ref (rY 2), .ref (rY 3), .ref (rY 4), .ref (rY 5), .ref ho, .ref (rY 6), .ref (rY 7), .ref (rY 8), .ref (rY 9), .ref lru])), (ho, .inl (cI, 26, .inl fh))]) [1, 2] rfl
  have hDc := hD.sub (ws' := [(ly, .inr (4, [.int 0, .ref (rY 0), .ref (rY 1), .ref (rY 2), .ref (rY 3), .ref (rY 4), .ref (rY 5), .ref ho, .ref (rY 6), .ref (rY 7), .ref (rY 8), .ref (rY 9), .ref lru])), (ho, .inl (cI, 26, .inl fh))]) [1, 2] (by decide) rfl
  have hFc := va_free (wc := [(ly, .inr (4, [.int 0, .ref (rY 0), .ref (rY 1), .ref (rY 2), .ref (rY 3), .ref (rY 4), .ref (rY 5), .ref ho, .ref (rY 6), .ref (rY 7), .ref (rY 8), .ref (rY 9), .ref lru])), (ho, .inl (cI, 26, .inl fh))]) hD hS hA [1, 2] rfl
  refine va_calli (va_runV (As := [.int f]) (rest := []) ⟨hx, hb, hml, hown, hgt⟩ (x_has l D cI cZ cC cJ ly rY ho lru fh hfh f s.heap.size) (cwV 1 hgt (gV wd_2_64 wd_2_65 wd_2_66 wd_0_6 wd_2_67) rfl rfl rfl (by decide +kernel) ⟨Nat.le_of_ble_eq_true rfl, Nat.le_of_ble_eq_true rfl⟩) ⟨fun a U g mk q => by obtain ⟨q0, q1, qP, qK, qD⟩ := q; exact ⟨q0, q1, qP, va_K.moved (u := U) (U := U.calling g mk a) (Vm.Alike.refl U.vm) qK, qD⟩, va_recv hK hP (ci := 4) (q0 := 1) rfl rfl, fun U hU hW => ⟨rfl, by rw [hU], by rw [hU]; exact hPc, va_K.moved hW.alike hK, hDc.weaken (fun _ _ _ _ => trivial)⟩⟩ rfl rfl hl.1 rfl (lv_room (Nat.le_of_ble_eq_true rfl)) dX11_field_5 ⟨Nat.le_of_ble_eq_true rfl, Nat.le_of_ble_eq_true rfl⟩) hS (fun q _ h => hFc q h) hFc (fun r u t H1 locs ht hvm hw hB hz1 hk1 hS => ?_)
  obtain ⟨hP1, hD1⟩ := hB
  rw [ht] at hP1
  obtain ⟨hP, hD⟩ := va_join (wr := [(x, .inr (11, [.ref dr, .ref rd, .ref jd, .ref ly, .ref dv, .ref pl, .ref jo, .ref sc, .ref ck]))]) (w1 := [(ly, .inr (4, [.int 0, .ref (rY 0), .ref (rY 1), .ref (rY 2), .ref (rY 3), .ref (rY 4), .ref (rY 5), .ref ho, .ref (rY 6), .ref (rY 7), .ref (rY 8), .ref (rY 9), .ref lru])), (ho, .inl (cI, 26, .inl fh))]) hP hD [1, 2] [0] rfl rfl (by decide) (by decide) hk1 hFc hP1 hD1
  generalize H1 = H at hP hS ⊢
  have hP : va_P D vwCl [(x, .inr (11, [.ref dr, .ref rd, .ref jd, .ref ly, .ref dv, .ref pl, .ref jo, .ref sc, .ref ck])), (ly, .inr (4, [.int 0, .ref (rY 0), .ref (rY 1), .ref (rY 2), .ref (rY 3), .ref (rY 4), .ref (rY 5), .ref ho, .ref (rY 6), .ref (rY 7), .ref (rY 8), .ref (rY 9), .ref lru])), (ho, .inl (cI, 26, .inl fh))] H := hP
  have hD : va_D A [(x, .inr (11, [.ref dr, .ref rd, .ref jd, .ref ly, .ref dv, .ref pl, .ref jo, .ref sc, .ref ck])), (ly, .inr (4, [.int 0, .ref (rY 0), .ref (rY 1), .ref (rY 2), .ref (rY 3), .ref (rY 4), .ref (rY 5), .ref ho, .ref (rY 6), .ref (rY 7), .ref (rY 8), .ref (rY 9), .ref lru])), (ho, .inl (cI, 26, .inl fh))] := hD
  obtain rfl : r = 0 := hw
  refine lv_if_ne hx hb dX11_field_8 (tgt := 13) rfl (fun h_8 => absurd (by decide) h_8) (fun _ => ?_)
  refine lv_iconst (v := (-1)) hx hb dX11_field_11 (by decide) ?_
  refine W.widen (k := 0) (n := 0) (Nat.le_of_ble_eq_true rfl) (Nat.le_of_ble_eq_true rfl) ?_
  exact W.iret (v := (-1)) hx hb hr (fun t ht hW => ⟨⟨(-1), (), rfl, rfl, trivial⟩, hS.F ht⟩) hS.2.2 dX11_field_12
set_option maxHeartbeats 4000000 in
set_option maxRecDepth 100000 in
theorem x_poke (l : Launch) (D : va_G) (cI cZ cC cJ : ClassId) (x : Nat) (dr : Nat) (rd : Nat) (jd : Nat) (ly : Nat) (dv : Nat) (pl : Nat) (jo : Nat) (sc : Nat) (ck : Nat) (rY : Nat → Nat) (ho : Nat) (lru : Nat) (fh : Nat → Int32) (hfh : ∀ j, j < 26 → fh j = -1) (f : Int32) (v : Int32) (sz : Nat) : Met l yX11_poke wsX11_poke ({ frames := 1, cells := 0, slots := 0, locals := 21 }) (va_Pc [.ref x, .int f, .int v] (fun U => U.heap.size = sz ∧ va_P D vwCl [(x, .inr (11, [.ref dr, .ref rd, .ref jd, .ref ly, .ref dv, .ref pl, .ref jo, .ref sc, .ref ck])), (ly, .inr (4, [.int 0, .ref (rY 0), .ref (rY 1), .ref (rY 2), .ref (rY 3), .ref (rY 4), .ref (rY 5), .ref ho, .ref (rY 6), .ref (rY 7), .ref (rY 8), .ref (rY 9), .ref lru])), (ho, .inl (cI, 26, .inl fh))] U.heap ∧ va_K D vwCl [(cI, .int), (cZ, .boolean), (cC, .char), (cJ, .long)] U ∧ va_D (fun _ => True) [(x, .inr (11, [.ref dr, .ref rd, .ref jd, .ref ly, .ref dv, .ref pl, .ref jo, .ref sc, .ref ck])), (ly, .inr (4, [.int 0, .ref (rY 0), .ref (rY 1), .ref (rY 2), .ref (rY 3), .ref (rY 4), .ref (rY 5), .ref ho, .ref (rY 6), .ref (rY 7), .ref (rY 8), .ref (rY 9), .ref lru])), (ho, .inl (cI, 26, .inl fh))])) (va_Qi (fun (r : Int32) (_ : Unit) => r = 0) (fun _ _ => True) (va_A [(x, .inr (11, [.ref dr, .ref rd, .ref jd, .ref ly, .ref dv, .ref pl, .ref jo, .ref sc, .ref ck])), (ly, .inr (4, [.int 0, .ref (rY 0), .ref (rY 1), .ref (rY 2), .ref (rY 3), .ref (rY 4), .ref (rY 5), .ref ho, .ref (rY 6), .ref (rY 7), .ref (rY 8), .ref (rY 9), .ref lru])), (ho, .inl (cI, 26, .inl fh))] sz)) 0 0 (va_A [(x, .inr (11, [.ref dr, .ref rd, .ref jd, .ref ly, .ref dv, .ref pl, .ref jo, .ref sc, .ref ck])), (ly, .inr (4, [.int 0, .ref (rY 0), .ref (rY 1), .ref (rY 2), .ref (rY 3), .ref (rY 4), .ref (rY 5), .ref ho, .ref (rY 6), .ref (rY 7), .ref (rY 8), .ref (rY 9), .ref lru])), (ho, .inl (cI, 26, .inl fh))] sz) := by
  refine Met.ofW (cc := cX11_poke) (maxL := 4) (ret := (some .boolean)) (by decide) rfl ?_
  intro p e s m args below meth c s₁ B hml hv
  obtain ⟨rfl, hsz, hP, hK, hD0⟩ := hv
  have hx := B.exec
  have hb := B.bytes
  have hr := B.returns
  have hgt := fun w (h : w ∈ GT) => atoms_spec (ws := wsX11_poke) B.pre w (List.mem_cons_of_mem _ h)
  have hown : s.vm.findClass RX11 = some m.cls := findClass_of_methodNamed B.named
  have hlocks := B.notSynchronized
  subst hsz
  have hD := hD0.self (sz := s.heap.size)
  generalize hAe : va_A [(x, .inr (11, [.ref dr, .ref rd, .ref jd, .ref ly, .ref dv, .ref pl, .ref jo, .ref sc, .ref ck])), (ly, .inr (4, [.int 0, .ref (rY 0), .ref (rY 1), .ref (rY 2), .ref (rY 3), .ref (rY 4), .ref (rY 5), .ref ho, .ref (rY 6), .ref (rY 7), .ref (rY 8), .ref (rY 9), .ref lru])), (ho, .inl (cI, 26, .inl fh))] s.heap.size = A at hD ⊢
  have hA : ∀ q : Nat, s.heap.size ≤ q → A q := fun q h => by rw [← hAe]; exact Or.inr h
  have hS : va_S A s.heap s.heap [] := va_S.rf
  have hP : va_P D vwCl [(x, .inr (11, [.ref dr, .ref rd, .ref jd, .ref ly, .ref dv, .ref pl, .ref jo, .ref sc, .ref ck])), (ly, .inr (4, [.int 0, .ref (rY 0), .ref (rY 1), .ref (rY 2), .ref (rY 3), .ref (rY 4), .ref (rY 5), .ref ho, .ref (rY 6), .ref (rY 7), .ref (rY 8), .ref (rY 9), .ref lru])), (ho, .inl (cI, 26, .inl fh))] s.heap := hP
  have hl := lv_entry ([.ref x, .int f, .int v]) (n := 4) (Nat.le_of_ble_eq_true rfl)
  rw [lg_entry_eq]
  generalize (lg_sl ([.ref x, .int f, .int v]) ++ List.replicate (4 - (lg_sl ([.ref x, .int f, .int v])).length) Slot.unset).toArray = ls at hl ⊢
  have hl : lv_has ls 4 [(0, .ref x), (1, .int f), (2, .int v)] := hl
  refine lv_aload_n hx hb dX11_poke_0 rfl (lv_at hl 0 rfl) ?_
  refine va_get (D := D) (ci := 11) (v := .ref ly) (C := RX11) (T := TX11) (N := 9) hx hb hgt iwX11 hown hK hP 0 rfl rfl 3 (Nat.le_of_ble_eq_true rfl) (hgt _ wd_2_20) (fun _ h9 => h9) rfl dX11_poke_1 ?_
  refine lv_iload_n hx hb dX11_poke_4 rfl (lv_at hl 1 rfl) ?_
  have hPc := hP.sub (ws' := [(ly, .inr (4, [.int 0, .ref (rY 0), .ref (rY 1), .ref (rY 2), .ref (rY 3), .ref (rY 4), .ref (rY 5), .ref ho, .ref (rY 6), .ref (rY 7), .ref (rY 8), .ref (rY 9), .ref lru])), (ho, .inl (cI, 26, .inl fh))]) [1, 2] rfl
  have hDc := hD.sub (ws' := [(ly, .inr (4, [.int 0, .ref (rY 0), .ref (rY 1), .ref (rY 2), .ref (rY 3), .ref (rY 4), .ref (rY 5), .ref ho, .ref (rY 6), .ref (rY 7), .ref (rY 8), .ref (rY 9), .ref lru])), (ho, .inl (cI, 26, .inl fh))]) [1, 2] (by decide) rfl
  have hFc := va_free (wc := [(ly, .inr (4, [.int 0, .ref (rY 0), .ref (rY 1), .ref (rY 2), .ref (rY 3), .ref (rY 4), .ref (rY 5), .ref ho, .ref (rY 6), .ref (rY 7), .ref (rY 8), .ref (rY 9), .ref lru])), (ho, .inl (cI, 26, .inl fh))]) hD hS hA [1, 2] rfl
  refine va_calli (va_runV (As := [.int f]) (rest := []) ⟨hx, hb, hml, hown, hgt⟩ (x_has l D cI cZ cC cJ ly rY ho lru fh hfh f s.heap.size) (cwV 1 hgt (gV wd_2_64 wd_2_65 wd_2_66 wd_0_6 wd_2_67) rfl rfl rfl (by decide +kernel) ⟨Nat.le_of_ble_eq_true rfl, Nat.le_of_ble_eq_true rfl⟩) ⟨fun a U g mk q => by obtain ⟨q0, q1, qP, qK, qD⟩ := q; exact ⟨q0, q1, qP, va_K.moved (u := U) (U := U.calling g mk a) (Vm.Alike.refl U.vm) qK, qD⟩, va_recv hK hP (ci := 4) (q0 := 1) rfl rfl, fun U hU hW => ⟨rfl, by rw [hU], by rw [hU]; exact hPc, va_K.moved hW.alike hK, hDc.weaken (fun _ _ _ _ => trivial)⟩⟩ rfl rfl hl.1 rfl (lv_room (Nat.le_of_ble_eq_true rfl)) dX11_poke_5 ⟨Nat.le_of_ble_eq_true rfl, Nat.le_of_ble_eq_true rfl⟩) hS (fun q _ h => hFc q h) hFc (fun r u t H1 locs ht hvm hw hB hz1 hk1 hS => ?_)
  obtain ⟨hP1, hD1⟩ := hB
  rw [ht] at hP1
  obtain ⟨hP, hD⟩ := va_join (wr := [(x, .inr (11, [.ref dr, .ref rd, .ref jd, .ref ly, .ref dv, .ref pl, .ref jo, .ref sc, .ref ck]))]) (w1 := [(ly, .inr (4, [.int 0, .ref (rY 0), .ref (rY 1), .ref (rY 2), .ref (rY 3), .ref (rY 4), .ref (rY 5), .ref ho, .ref (rY 6), .ref (rY 7), .ref (rY 8), .ref (rY 9), .ref lru])), (ho, .inl (cI, 26, .inl fh))]) hP hD [1, 2] [0] rfl rfl (by decide) (by decide) hk1 hFc hP1 hD1
  generalize H1 = H at hP hS ⊢
  have hP : va_P D vwCl [(x, .inr (11, [.ref dr, .ref rd, .ref jd, .ref ly, .ref dv, .ref pl, .ref jo, .ref sc, .ref ck])), (ly, .inr (4, [.int 0, .ref (rY 0), .ref (rY 1), .ref (rY 2), .ref (rY 3), .ref (rY 4), .ref (rY 5), .ref ho, .ref (rY 6), .ref (rY 7), .ref (rY 8), .ref (rY 9), .ref lru])), (ho, .inl (cI, 26, .inl fh))] H := hP
  have hD : va_D A [(x, .inr (11, [.ref dr, .ref rd, .ref jd, .ref ly, .ref dv, .ref pl, .ref jo, .ref sc, .ref ck])), (ly, .inr (4, [.int 0, .ref (rY 0), .ref (rY 1), .ref (rY 2), .ref (rY 3), .ref (rY 4), .ref (rY 5), .ref ho, .ref (rY 6), .ref (rY 7), .ref (rY 8), .ref (rY 9), .ref lru])), (ho, .inl (cI, 26, .inl fh))] := hD
  obtain rfl : r = 0 := hw
  refine lv_if_eq hx hb dX11_poke_8 (tgt := 23) rfl (fun _ => ?_) (fun h_8 => absurd (by decide) h_8)
  refine lv_iconst (v := 0) hx hb dX11_poke_23 (by decide) ?_
  refine W.widen (k := 0) (n := 0) (Nat.le_of_ble_eq_true rfl) (Nat.le_of_ble_eq_true rfl) ?_
  exact W.zret (v := 0) (ty := .boolean) hx hb hr (by decide) (fun t ht hW => ⟨⟨0, (), rfl, rfl, trivial⟩, hS.F ht⟩) hS.2.2 dX11_poke_24
set_option maxHeartbeats 4000000 in
set_option maxRecDepth 100000 in
theorem x_put (l : Launch) (D : va_G) (cI cZ cC cJ : ClassId) (x : Nat) (dr : Nat) (rd : Nat) (jd : Nat) (ly : Nat) (dv : Nat) (pl : Nat) (jo : Nat) (sc : Nat) (ck : Nat) (rY : Nat → Nat) (ho : Nat) (lru : Nat) (fh : Nat → Int32) (hfh : ∀ j, j < 26 → fh j = -1) (f : Int32) (v : Int32) (sz : Nat) : Met l yX11_put wsX11_put ({ frames := 2, cells := 0, slots := 0, locals := 43 }) (va_Pc [.ref x, .int f, .int v] (fun U => U.heap.size = sz ∧ va_P D vwCl [(x, .inr (11, [.ref dr, .ref rd, .ref jd, .ref ly, .ref dv, .ref pl, .ref jo, .ref sc, .ref ck])), (ly, .inr (4, [.int 0, .ref (rY 0), .ref (rY 1), .ref (rY 2), .ref (rY 3), .ref (rY 4), .ref (rY 5), .ref ho, .ref (rY 6), .ref (rY 7), .ref (rY 8), .ref (rY 9), .ref lru])), (ho, .inl (cI, 26, .inl fh))] U.heap ∧ va_K D vwCl [(cI, .int), (cZ, .boolean), (cC, .char), (cJ, .long)] U ∧ va_D (fun _ => True) [(x, .inr (11, [.ref dr, .ref rd, .ref jd, .ref ly, .ref dv, .ref pl, .ref jo, .ref sc, .ref ck])), (ly, .inr (4, [.int 0, .ref (rY 0), .ref (rY 1), .ref (rY 2), .ref (rY 3), .ref (rY 4), .ref (rY 5), .ref ho, .ref (rY 6), .ref (rY 7), .ref (rY 8), .ref (rY 9), .ref lru])), (ho, .inl (cI, 26, .inl fh))])) (va_Qi (fun (r : Int32) (_ : Unit) => r = (-1)) (fun _ _ => True) (va_A [(x, .inr (11, [.ref dr, .ref rd, .ref jd, .ref ly, .ref dv, .ref pl, .ref jo, .ref sc, .ref ck])), (ly, .inr (4, [.int 0, .ref (rY 0), .ref (rY 1), .ref (rY 2), .ref (rY 3), .ref (rY 4), .ref (rY 5), .ref ho, .ref (rY 6), .ref (rY 7), .ref (rY 8), .ref (rY 9), .ref lru])), (ho, .inl (cI, 26, .inl fh))] sz)) 0 0 (va_A [(x, .inr (11, [.ref dr, .ref rd, .ref jd, .ref ly, .ref dv, .ref pl, .ref jo, .ref sc, .ref ck])), (ly, .inr (4, [.int 0, .ref (rY 0), .ref (rY 1), .ref (rY 2), .ref (rY 3), .ref (rY 4), .ref (rY 5), .ref ho, .ref (rY 6), .ref (rY 7), .ref (rY 8), .ref (rY 9), .ref lru])), (ho, .inl (cI, 26, .inl fh))] sz) := by
  refine Met.ofW (cc := cX11_put) (maxL := 3) (ret := (some .int)) (by decide) rfl ?_
  intro p e s m args below meth c s₁ B hml hv
  obtain ⟨rfl, hsz, hP, hK, hD0⟩ := hv
  have hx := B.exec
  have hb := B.bytes
  have hr := B.returns
  have hgt := fun w (h : w ∈ GT) => atoms_spec (ws := wsX11_put) B.pre w (List.mem_cons_of_mem _ h)
  have hown : s.vm.findClass RX11 = some m.cls := findClass_of_methodNamed B.named
  have hlocks := B.notSynchronized
  subst hsz
  have hD := hD0.self (sz := s.heap.size)
  generalize hAe : va_A [(x, .inr (11, [.ref dr, .ref rd, .ref jd, .ref ly, .ref dv, .ref pl, .ref jo, .ref sc, .ref ck])), (ly, .inr (4, [.int 0, .ref (rY 0), .ref (rY 1), .ref (rY 2), .ref (rY 3), .ref (rY 4), .ref (rY 5), .ref ho, .ref (rY 6), .ref (rY 7), .ref (rY 8), .ref (rY 9), .ref lru])), (ho, .inl (cI, 26, .inl fh))] s.heap.size = A at hD ⊢
  have hA : ∀ q : Nat, s.heap.size ≤ q → A q := fun q h => by rw [← hAe]; exact Or.inr h
  have hS : va_S A s.heap s.heap [] := va_S.rf
  have hP : va_P D vwCl [(x, .inr (11, [.ref dr, .ref rd, .ref jd, .ref ly, .ref dv, .ref pl, .ref jo, .ref sc, .ref ck])), (ly, .inr (4, [.int 0, .ref (rY 0), .ref (rY 1), .ref (rY 2), .ref (rY 3), .ref (rY 4), .ref (rY 5), .ref ho, .ref (rY 6), .ref (rY 7), .ref (rY 8), .ref (rY 9), .ref lru])), (ho, .inl (cI, 26, .inl fh))] s.heap := hP
  have hl := lv_entry ([.ref x, .int f, .int v]) (n := 3) (Nat.le_of_ble_eq_true rfl)
  rw [lg_entry_eq]
  generalize (lg_sl ([.ref x, .int f, .int v]) ++ List.replicate (3 - (lg_sl ([.ref x, .int f, .int v])).length) Slot.unset).toArray = ls at hl ⊢
  have hl : lv_has ls 3 [(0, .ref x), (1, .int f), (2, .int v)] := hl
  refine lv_aload_n hx hb dX11_put_0 rfl (lv_at hl 0 rfl) ?_
  refine va_get (D := D) (ci := 11) (v := .ref ly) (C := RX11) (T := TX11) (N := 9) hx hb hgt iwX11 hown hK hP 0 rfl rfl 3 (Nat.le_of_ble_eq_true rfl) (hgt _ wd_2_20) (fun _ h9 => h9) rfl dX11_put_1 ?_
  refine lv_iload_n hx hb dX11_put_4 rfl (lv_at hl 1 rfl) ?_
  refine lv_iload_n hx hb dX11_put_5 rfl (lv_at hl 2 rfl) ?_
  have hPc := hP.sub (ws' := [(ly, .inr (4, [.int 0, .ref (rY 0), .ref (rY 1), .ref (rY 2), .ref (rY 3), .ref (rY 4), .ref (rY 5), .ref ho, .ref (rY 6), .ref (rY 7), .ref (rY 8), .ref (rY 9), .ref lru])), (ho, .inl (cI, 26, .inl fh))]) [1, 2] rfl
  have hDc := hD.sub (ws' := [(ly, .inr (4, [.int 0, .ref (rY 0), .ref (rY 1), .ref (rY 2), .ref (rY 3), .ref (rY 4), .ref (rY 5), .ref ho, .ref (rY 6), .ref (rY 7), .ref (rY 8), .ref (rY 9), .ref lru])), (ho, .inl (cI, 26, .inl fh))]) [1, 2] (by decide) rfl
  have hFc := va_free (wc := [(ly, .inr (4, [.int 0, .ref (rY 0), .ref (rY 1), .ref (rY 2), .ref (rY 3), .ref (rY 4), .ref (rY 5), .ref ho, .ref (rY 6), .ref (rY 7), .ref (rY 8), .ref (rY 9), .ref lru])), (ho, .inl (cI, 26, .inl fh))]) hD hS hA [1, 2] rfl
  refine va_calli (va_runV (As := [.int f, .int v]) (rest := []) ⟨hx, hb, hml, hown, hgt⟩ (x_canPut l D cI cZ cC cJ ly rY ho lru fh hfh f v s.heap.size) (cwV 2 hgt (gV wd_2_178 wd_2_179 wd_2_180 wd_0_6 wd_2_181) rfl rfl rfl (by decide +kernel) ⟨Nat.le_of_ble_eq_true rfl, Nat.le_of_ble_eq_true rfl⟩) ⟨fun a U g mk q => by obtain ⟨q0, q1, qP, qK, qD⟩ := q; exact ⟨q0, q1, qP, va_K.moved (u := U) (U := U.calling g mk a) (Vm.Alike.refl U.vm) qK, qD⟩, va_recv hK hP (ci := 4) (q0 := 1) rfl rfl, fun U hU hW => ⟨rfl, by rw [hU], by rw [hU]; exact hPc, va_K.moved hW.alike hK, hDc.weaken (fun _ _ _ _ => trivial)⟩⟩ rfl rfl hl.1 rfl (lv_room (Nat.le_of_ble_eq_true rfl)) dX11_put_6 ⟨Nat.le_of_ble_eq_true rfl, Nat.le_of_ble_eq_true rfl⟩) hS (fun q _ h => hFc q h) hFc (fun r u t H1 locs ht hvm hw hB hz1 hk1 hS => ?_)
  have hP1 : va_P D vwCl [] H1 := fun k q h => by simp at h
  have hD1 : va_D (va_A [(ly, .inr (4, [.int 0, .ref (rY 0), .ref (rY 1), .ref (rY 2), .ref (rY 3), .ref (rY 4), .ref (rY 5), .ref ho, .ref (rY 6), .ref (rY 7), .ref (rY 8), .ref (rY 9), .ref lru])), (ho, .inl (cI, 26, .inl fh))] s.heap.size) [] := ⟨fun i j p q h => by simp at h, fun k q h => by simp at h⟩
  obtain ⟨hP, hD⟩ := va_join (wr := [(x, .inr (11, [.ref dr, .ref rd, .ref jd, .ref ly, .ref dv, .ref pl, .ref jo, .ref sc, .ref ck]))]) (w1 := []) hP hD [1, 2] [0] rfl rfl (by decide) (by decide) hk1 hFc hP1 hD1
  generalize H1 = H at hP hS ⊢
  have hP : va_P D vwCl [(x, .inr (11, [.ref dr, .ref rd, .ref jd, .ref ly, .ref dv, .ref pl, .ref jo, .ref sc, .ref ck]))] H := hP
  have hD : va_D A [(x, .inr (11, [.ref dr, .ref rd, .ref jd, .ref ly, .ref dv, .ref pl, .ref jo, .ref sc, .ref ck]))] := hD
  obtain rfl : r = 0 := hw
  refine lv_if_eq hx hb dX11_put_9 (tgt := 22) rfl (fun _ => ?_) (fun h_9 => absurd (by decide) h_9)
  refine lv_iconst (v := (-1)) hx hb dX11_put_22 (by decide) ?_
  refine W.widen (k := 0) (n := 0) (Nat.le_of_ble_eq_true rfl) (Nat.le_of_ble_eq_true rfl) ?_
  exact W.iret (v := (-1)) hx hb hr (fun t ht hW => ⟨⟨(-1), (), rfl, rfl, trivial⟩, hS.F ht⟩) hS.2.2 dX11_put_23
set_option maxHeartbeats 4000000 in
set_option maxRecDepth 100000 in
theorem x_join (l : Launch) (D : va_G) (cI cZ cC cJ : ClassId) (x : Nat) (dr : Nat) (rd : Nat) (jd : Nat) (ly : Nat) (dv : Nat) (pl : Nat) (jo : Nat) (sc : Nat) (ck : Nat) (rY : Nat → Nat) (ho : Nat) (lru : Nat) (fh : Nat → Int32) (hfh : ∀ j, j < 26 → fh j = -1) (f : Int32) (v : Int32) (sz : Nat) : Met l yX11_join wsX11_join ({ frames := 2, cells := 0, slots := 0, locals := 43 }) (va_Pc [.ref x, .int f, .int v] (fun U => U.heap.size = sz ∧ va_P D vwCl [(x, .inr (11, [.ref dr, .ref rd, .ref jd, .ref ly, .ref dv, .ref pl, .ref jo, .ref sc, .ref ck])), (ly, .inr (4, [.int 0, .ref (rY 0), .ref (rY 1), .ref (rY 2), .ref (rY 3), .ref (rY 4), .ref (rY 5), .ref ho, .ref (rY 6), .ref (rY 7), .ref (rY 8), .ref (rY 9), .ref lru])), (ho, .inl (cI, 26, .inl fh))] U.heap ∧ va_K D vwCl [(cI, .int), (cZ, .boolean), (cC, .char), (cJ, .long)] U ∧ va_D (fun _ => True) [(x, .inr (11, [.ref dr, .ref rd, .ref jd, .ref ly, .ref dv, .ref pl, .ref jo, .ref sc, .ref ck])), (ly, .inr (4, [.int 0, .ref (rY 0), .ref (rY 1), .ref (rY 2), .ref (rY 3), .ref (rY 4), .ref (rY 5), .ref ho, .ref (rY 6), .ref (rY 7), .ref (rY 8), .ref (rY 9), .ref lru])), (ho, .inl (cI, 26, .inl fh))])) (va_Qi (fun (r : Int32) (_ : Unit) => r = (-1)) (fun _ _ => True) (va_A [(x, .inr (11, [.ref dr, .ref rd, .ref jd, .ref ly, .ref dv, .ref pl, .ref jo, .ref sc, .ref ck])), (ly, .inr (4, [.int 0, .ref (rY 0), .ref (rY 1), .ref (rY 2), .ref (rY 3), .ref (rY 4), .ref (rY 5), .ref ho, .ref (rY 6), .ref (rY 7), .ref (rY 8), .ref (rY 9), .ref lru])), (ho, .inl (cI, 26, .inl fh))] sz)) 0 0 (va_A [(x, .inr (11, [.ref dr, .ref rd, .ref jd, .ref ly, .ref dv, .ref pl, .ref jo, .ref sc, .ref ck])), (ly, .inr (4, [.int 0, .ref (rY 0), .ref (rY 1), .ref (rY 2), .ref (rY 3), .ref (rY 4), .ref (rY 5), .ref ho, .ref (rY 6), .ref (rY 7), .ref (rY 8), .ref (rY 9), .ref lru])), (ho, .inl (cI, 26, .inl fh))] sz) := by
  refine Met.ofW (cc := cX11_join) (maxL := 3) (ret := (some .int)) (by decide) rfl ?_
  intro p e s m args below meth c s₁ B hml hv
  obtain ⟨rfl, hsz, hP, hK, hD0⟩ := hv
  have hx := B.exec
  have hb := B.bytes
  have hr := B.returns
  have hgt := fun w (h : w ∈ GT) => atoms_spec (ws := wsX11_join) B.pre w (List.mem_cons_of_mem _ h)
  have hown : s.vm.findClass RX11 = some m.cls := findClass_of_methodNamed B.named
  have hlocks := B.notSynchronized
  subst hsz
  have hD := hD0.self (sz := s.heap.size)
  generalize hAe : va_A [(x, .inr (11, [.ref dr, .ref rd, .ref jd, .ref ly, .ref dv, .ref pl, .ref jo, .ref sc, .ref ck])), (ly, .inr (4, [.int 0, .ref (rY 0), .ref (rY 1), .ref (rY 2), .ref (rY 3), .ref (rY 4), .ref (rY 5), .ref ho, .ref (rY 6), .ref (rY 7), .ref (rY 8), .ref (rY 9), .ref lru])), (ho, .inl (cI, 26, .inl fh))] s.heap.size = A at hD ⊢
  have hA : ∀ q : Nat, s.heap.size ≤ q → A q := fun q h => by rw [← hAe]; exact Or.inr h
  have hS : va_S A s.heap s.heap [] := va_S.rf
  have hP : va_P D vwCl [(x, .inr (11, [.ref dr, .ref rd, .ref jd, .ref ly, .ref dv, .ref pl, .ref jo, .ref sc, .ref ck])), (ly, .inr (4, [.int 0, .ref (rY 0), .ref (rY 1), .ref (rY 2), .ref (rY 3), .ref (rY 4), .ref (rY 5), .ref ho, .ref (rY 6), .ref (rY 7), .ref (rY 8), .ref (rY 9), .ref lru])), (ho, .inl (cI, 26, .inl fh))] s.heap := hP
  have hl := lv_entry ([.ref x, .int f, .int v]) (n := 3) (Nat.le_of_ble_eq_true rfl)
  rw [lg_entry_eq]
  generalize (lg_sl ([.ref x, .int f, .int v]) ++ List.replicate (3 - (lg_sl ([.ref x, .int f, .int v])).length) Slot.unset).toArray = ls at hl ⊢
  have hl : lv_has ls 3 [(0, .ref x), (1, .int f), (2, .int v)] := hl
  refine lv_aload_n hx hb dX11_join_0 rfl (lv_at hl 0 rfl) ?_
  refine va_get (D := D) (ci := 11) (v := .ref ly) (C := RX11) (T := TX11) (N := 9) hx hb hgt iwX11 hown hK hP 0 rfl rfl 3 (Nat.le_of_ble_eq_true rfl) (hgt _ wd_2_20) (fun _ h9 => h9) rfl dX11_join_1 ?_
  refine lv_iload_n hx hb dX11_join_4 rfl (lv_at hl 1 rfl) ?_
  refine lv_iload_n hx hb dX11_join_5 rfl (lv_at hl 2 rfl) ?_
  have hPc := hP.sub (ws' := [(ly, .inr (4, [.int 0, .ref (rY 0), .ref (rY 1), .ref (rY 2), .ref (rY 3), .ref (rY 4), .ref (rY 5), .ref ho, .ref (rY 6), .ref (rY 7), .ref (rY 8), .ref (rY 9), .ref lru])), (ho, .inl (cI, 26, .inl fh))]) [1, 2] rfl
  have hDc := hD.sub (ws' := [(ly, .inr (4, [.int 0, .ref (rY 0), .ref (rY 1), .ref (rY 2), .ref (rY 3), .ref (rY 4), .ref (rY 5), .ref ho, .ref (rY 6), .ref (rY 7), .ref (rY 8), .ref (rY 9), .ref lru])), (ho, .inl (cI, 26, .inl fh))]) [1, 2] (by decide) rfl
  have hFc := va_free (wc := [(ly, .inr (4, [.int 0, .ref (rY 0), .ref (rY 1), .ref (rY 2), .ref (rY 3), .ref (rY 4), .ref (rY 5), .ref ho, .ref (rY 6), .ref (rY 7), .ref (rY 8), .ref (rY 9), .ref lru])), (ho, .inl (cI, 26, .inl fh))]) hD hS hA [1, 2] rfl
  refine va_calli (va_runV (As := [.int f, .int v]) (rest := []) ⟨hx, hb, hml, hown, hgt⟩ (x_canPut l D cI cZ cC cJ ly rY ho lru fh hfh f v s.heap.size) (cwV 2 hgt (gV wd_2_178 wd_2_179 wd_2_180 wd_0_6 wd_2_181) rfl rfl rfl (by decide +kernel) ⟨Nat.le_of_ble_eq_true rfl, Nat.le_of_ble_eq_true rfl⟩) ⟨fun a U g mk q => by obtain ⟨q0, q1, qP, qK, qD⟩ := q; exact ⟨q0, q1, qP, va_K.moved (u := U) (U := U.calling g mk a) (Vm.Alike.refl U.vm) qK, qD⟩, va_recv hK hP (ci := 4) (q0 := 1) rfl rfl, fun U hU hW => ⟨rfl, by rw [hU], by rw [hU]; exact hPc, va_K.moved hW.alike hK, hDc.weaken (fun _ _ _ _ => trivial)⟩⟩ rfl rfl hl.1 rfl (lv_room (Nat.le_of_ble_eq_true rfl)) dX11_join_6 ⟨Nat.le_of_ble_eq_true rfl, Nat.le_of_ble_eq_true rfl⟩) hS (fun q _ h => hFc q h) hFc (fun r u t H1 locs ht hvm hw hB hz1 hk1 hS => ?_)
  have hP1 : va_P D vwCl [] H1 := fun k q h => by simp at h
  have hD1 : va_D (va_A [(ly, .inr (4, [.int 0, .ref (rY 0), .ref (rY 1), .ref (rY 2), .ref (rY 3), .ref (rY 4), .ref (rY 5), .ref ho, .ref (rY 6), .ref (rY 7), .ref (rY 8), .ref (rY 9), .ref lru])), (ho, .inl (cI, 26, .inl fh))] s.heap.size) [] := ⟨fun i j p q h => by simp at h, fun k q h => by simp at h⟩
  obtain ⟨hP, hD⟩ := va_join (wr := [(x, .inr (11, [.ref dr, .ref rd, .ref jd, .ref ly, .ref dv, .ref pl, .ref jo, .ref sc, .ref ck]))]) (w1 := []) hP hD [1, 2] [0] rfl rfl (by decide) (by decide) hk1 hFc hP1 hD1
  generalize H1 = H at hP hS ⊢
  have hP : va_P D vwCl [(x, .inr (11, [.ref dr, .ref rd, .ref jd, .ref ly, .ref dv, .ref pl, .ref jo, .ref sc, .ref ck]))] H := hP
  have hD : va_D A [(x, .inr (11, [.ref dr, .ref rd, .ref jd, .ref ly, .ref dv, .ref pl, .ref jo, .ref sc, .ref ck]))] := hD
  obtain rfl : r = 0 := hw
  refine lv_if_eq hx hb dX11_join_9 (tgt := 22) rfl (fun _ => ?_) (fun h_9 => absurd (by decide) h_9)
  refine lv_iconst (v := (-1)) hx hb dX11_join_22 (by decide) ?_
  refine W.widen (k := 0) (n := 0) (Nat.le_of_ble_eq_true rfl) (Nat.le_of_ble_eq_true rfl) ?_
  exact W.iret (v := (-1)) hx hb hr (fun t ht hW => ⟨⟨(-1), (), rfl, rfl, trivial⟩, hS.F ht⟩) hS.2.2 dX11_join_23
set_option maxHeartbeats 4000000 in
set_option maxRecDepth 100000 in
theorem x_reset (l : Launch) (D : va_G) (cI cZ cC cJ : ClassId) (x : Nat) (dr : Nat) (rd : Nat) (jd : Nat) (ly : Nat) (dv : Nat) (pl : Nat) (jo : Nat) (sc : Nat) (ck : Nat) (rY : Nat → Nat) (ho : Nat) (lru : Nat) (sz : Nat) : Met l yX11_reset wsX11_reset ({ frames := 1, cells := 0, slots := 0, locals := 20 }) (va_Pc [.ref x] (fun U => U.heap.size = sz ∧ va_P D vwCl [(x, .inr (11, [.ref dr, .ref rd, .ref jd, .ref ly, .ref dv, .ref pl, .ref jo, .ref sc, .ref ck])), (ly, .inr (4, [.int 0, .ref (rY 0), .ref (rY 1), .ref (rY 2), .ref (rY 3), .ref (rY 4), .ref (rY 5), .ref ho, .ref (rY 6), .ref (rY 7), .ref (rY 8), .ref (rY 9), .ref lru]))] U.heap ∧ va_K D vwCl [(cI, .int), (cZ, .boolean), (cC, .char), (cJ, .long)] U ∧ va_D (fun _ => True) [(x, .inr (11, [.ref dr, .ref rd, .ref jd, .ref ly, .ref dv, .ref pl, .ref jo, .ref sc, .ref ck])), (ly, .inr (4, [.int 0, .ref (rY 0), .ref (rY 1), .ref (rY 2), .ref (rY 3), .ref (rY 4), .ref (rY 5), .ref ho, .ref (rY 6), .ref (rY 7), .ref (rY 8), .ref (rY 9), .ref lru]))])) (va_Qi (fun (r : Int32) (_ : Unit) => r = 0) (fun _ _ => True) (va_A [(x, .inr (11, [.ref dr, .ref rd, .ref jd, .ref ly, .ref dv, .ref pl, .ref jo, .ref sc, .ref ck])), (ly, .inr (4, [.int 0, .ref (rY 0), .ref (rY 1), .ref (rY 2), .ref (rY 3), .ref (rY 4), .ref (rY 5), .ref ho, .ref (rY 6), .ref (rY 7), .ref (rY 8), .ref (rY 9), .ref lru]))] sz)) 0 0 (va_A [(x, .inr (11, [.ref dr, .ref rd, .ref jd, .ref ly, .ref dv, .ref pl, .ref jo, .ref sc, .ref ck])), (ly, .inr (4, [.int 0, .ref (rY 0), .ref (rY 1), .ref (rY 2), .ref (rY 3), .ref (rY 4), .ref (rY 5), .ref ho, .ref (rY 6), .ref (rY 7), .ref (rY 8), .ref (rY 9), .ref lru]))] sz) := by
  refine Met.ofW (cc := cX11_reset) (maxL := 1) (ret := (some .boolean)) (by decide) rfl ?_
  intro p e s m args below meth c s₁ B hml hv
  obtain ⟨rfl, hsz, hP, hK, hD0⟩ := hv
  have hx := B.exec
  have hb := B.bytes
  have hr := B.returns
  have hgt := fun w (h : w ∈ GT) => atoms_spec (ws := wsX11_reset) B.pre w (List.mem_cons_of_mem _ h)
  have hown : s.vm.findClass RX11 = some m.cls := findClass_of_methodNamed B.named
  have hlocks := B.notSynchronized
  subst hsz
  have hD := hD0.self (sz := s.heap.size)
  generalize hAe : va_A [(x, .inr (11, [.ref dr, .ref rd, .ref jd, .ref ly, .ref dv, .ref pl, .ref jo, .ref sc, .ref ck])), (ly, .inr (4, [.int 0, .ref (rY 0), .ref (rY 1), .ref (rY 2), .ref (rY 3), .ref (rY 4), .ref (rY 5), .ref ho, .ref (rY 6), .ref (rY 7), .ref (rY 8), .ref (rY 9), .ref lru]))] s.heap.size = A at hD ⊢
  have hA : ∀ q : Nat, s.heap.size ≤ q → A q := fun q h => by rw [← hAe]; exact Or.inr h
  have hS : va_S A s.heap s.heap [] := va_S.rf
  have hP : va_P D vwCl [(x, .inr (11, [.ref dr, .ref rd, .ref jd, .ref ly, .ref dv, .ref pl, .ref jo, .ref sc, .ref ck])), (ly, .inr (4, [.int 0, .ref (rY 0), .ref (rY 1), .ref (rY 2), .ref (rY 3), .ref (rY 4), .ref (rY 5), .ref ho, .ref (rY 6), .ref (rY 7), .ref (rY 8), .ref (rY 9), .ref lru]))] s.heap := hP
  have hl := lv_entry ([.ref x]) (n := 1) (Nat.le_of_ble_eq_true rfl)
  rw [lg_entry_eq]
  generalize (lg_sl ([.ref x]) ++ List.replicate (1 - (lg_sl ([.ref x])).length) Slot.unset).toArray = ls at hl ⊢
  have hl : lv_has ls 1 [(0, .ref x)] := hl
  refine lv_aload_n hx hb dX11_reset_0 rfl (lv_at hl 0 rfl) ?_
  have hPc := hP.sub (ws' := [(x, .inr (11, [.ref dr, .ref rd, .ref jd, .ref ly, .ref dv, .ref pl, .ref jo, .ref sc, .ref ck])), (ly, .inr (4, [.int 0, .ref (rY 0), .ref (rY 1), .ref (rY 2), .ref (rY 3), .ref (rY 4), .ref (rY 5), .ref ho, .ref (rY 6), .ref (rY 7), .ref (rY 8), .ref (rY 9), .ref lru]))]) [0, 1] rfl
  have hDc := hD.sub (ws' := [(x, .inr (11, [.ref dr, .ref rd, .ref jd, .ref ly, .ref dv, .ref pl, .ref jo, .ref sc, .ref ck])), (ly, .inr (4, [.int 0, .ref (rY 0), .ref (rY 1), .ref (rY 2), .ref (rY 3), .ref (rY 4), .ref (rY 5), .ref ho, .ref (rY 6), .ref (rY 7), .ref (rY 8), .ref (rY 9), .ref lru]))]) [0, 1] (by decide) rfl
  have hFc := va_free (wc := [(x, .inr (11, [.ref dr, .ref rd, .ref jd, .ref ly, .ref dv, .ref pl, .ref jo, .ref sc, .ref ck])), (ly, .inr (4, [.int 0, .ref (rY 0), .ref (rY 1), .ref (rY 2), .ref (rY 3), .ref (rY 4), .ref (rY 5), .ref ho, .ref (rY 6), .ref (rY 7), .ref (rY 8), .ref (rY 9), .ref lru]))]) hD hS hA [0, 1] rfl
  refine va_calli (va_runV (As := []) (rest := []) ⟨hx, hb, hml, hown, hgt⟩ (x_hasMap l D cI cZ cC cJ x dr rd jd ly dv pl jo sc ck rY ho lru s.heap.size) (cwV 0 hgt (gV wd_2_81 wd_2_83 sl__ChipMap____ChipMap___hasMap_____Z_____ChipMap___hasMap_____Z__ wd_0_1 wd_2_84) rfl rfl rfl (by decide +kernel) ⟨Nat.le_of_ble_eq_true rfl, Nat.le_of_ble_eq_true rfl⟩) ⟨fun a U g mk q => by obtain ⟨q0, q1, qP, qK, qD⟩ := q; exact ⟨q0, q1, qP, va_K.moved (u := U) (U := U.calling g mk a) (Vm.Alike.refl U.vm) qK, qD⟩, va_recv hK hP (ci := 11) (q0 := 0) rfl rfl, fun U hU hW => ⟨rfl, by rw [hU], by rw [hU]; exact hPc, va_K.moved hW.alike hK, hDc.weaken (fun _ _ _ _ => trivial)⟩⟩ rfl rfl hl.1 rfl (lv_room (Nat.le_of_ble_eq_true rfl)) dX11_reset_1 ⟨Nat.le_of_ble_eq_true rfl, Nat.le_of_ble_eq_true rfl⟩) hS (fun q _ h => hFc q h) hFc (fun r u t H1 locs ht hvm hw hB hz1 hk1 hS => ?_)
  obtain ⟨hP1, hD1⟩ := hB
  rw [ht] at hP1
  obtain ⟨hP, hD⟩ := va_join (wr := []) (w1 := [(x, .inr (11, [.ref dr, .ref rd, .ref jd, .ref ly, .ref dv, .ref pl, .ref jo, .ref sc, .ref ck])), (ly, .inr (4, [.int 0, .ref (rY 0), .ref (rY 1), .ref (rY 2), .ref (rY 3), .ref (rY 4), .ref (rY 5), .ref ho, .ref (rY 6), .ref (rY 7), .ref (rY 8), .ref (rY 9), .ref lru]))]) hP hD [0, 1] [] rfl rfl (by decide) (by decide) hk1 hFc hP1 hD1
  generalize H1 = H at hP hS ⊢
  have hP : va_P D vwCl [(x, .inr (11, [.ref dr, .ref rd, .ref jd, .ref ly, .ref dv, .ref pl, .ref jo, .ref sc, .ref ck])), (ly, .inr (4, [.int 0, .ref (rY 0), .ref (rY 1), .ref (rY 2), .ref (rY 3), .ref (rY 4), .ref (rY 5), .ref ho, .ref (rY 6), .ref (rY 7), .ref (rY 8), .ref (rY 9), .ref lru]))] H := hP
  have hD : va_D A [(x, .inr (11, [.ref dr, .ref rd, .ref jd, .ref ly, .ref dv, .ref pl, .ref jo, .ref sc, .ref ck])), (ly, .inr (4, [.int 0, .ref (rY 0), .ref (rY 1), .ref (rY 2), .ref (rY 3), .ref (rY 4), .ref (rY 5), .ref ho, .ref (rY 6), .ref (rY 7), .ref (rY 8), .ref (rY 9), .ref lru]))] := hD
  obtain rfl : r = 0 := hw
  refine lv_if_ne hx hb dX11_reset_4 (tgt := 9) rfl (fun h_4 => absurd (by decide) h_4) (fun _ => ?_)
  refine lv_iconst (v := 0) hx hb dX11_reset_7 (by decide) ?_
  refine W.widen (k := 0) (n := 0) (Nat.le_of_ble_eq_true rfl) (Nat.le_of_ble_eq_true rfl) ?_
  exact W.zret (v := 0) (ty := .boolean) hx hb hr (by decide) (fun t ht hW => ⟨⟨0, (), rfl, rfl, trivial⟩, hS.F ht⟩) hS.2.2 dX11_reset_8
set_option maxHeartbeats 4000000 in
set_option maxRecDepth 100000 in
theorem x_check (l : Launch) (D : va_G) (cI cZ cC cJ : ClassId) (x : Nat) (dr : Nat) (rd : Nat) (jd : Nat) (ly : Nat) (dv : Nat) (pl : Nat) (jo : Nat) (sc : Nat) (ck : Nat) (rY : Nat → Nat) (ho : Nat) (lru : Nat) (sz : Nat) : Met l yX11_check wsX11_check ({ frames := 1, cells := 0, slots := 0, locals := 20 }) (va_Pc [.ref x] (fun U => U.heap.size = sz ∧ va_P D vwCl [(x, .inr (11, [.ref dr, .ref rd, .ref jd, .ref ly, .ref dv, .ref pl, .ref jo, .ref sc, .ref ck])), (ly, .inr (4, [.int 0, .ref (rY 0), .ref (rY 1), .ref (rY 2), .ref (rY 3), .ref (rY 4), .ref (rY 5), .ref ho, .ref (rY 6), .ref (rY 7), .ref (rY 8), .ref (rY 9), .ref lru]))] U.heap ∧ va_K D vwCl [(cI, .int), (cZ, .boolean), (cC, .char), (cJ, .long)] U ∧ va_D (fun _ => True) [(x, .inr (11, [.ref dr, .ref rd, .ref jd, .ref ly, .ref dv, .ref pl, .ref jo, .ref sc, .ref ck])), (ly, .inr (4, [.int 0, .ref (rY 0), .ref (rY 1), .ref (rY 2), .ref (rY 3), .ref (rY 4), .ref (rY 5), .ref ho, .ref (rY 6), .ref (rY 7), .ref (rY 8), .ref (rY 9), .ref lru]))])) (va_Qi (fun (r : Int32) (_ : Unit) => r = (-1)) (fun _ _ => True) (va_A [(x, .inr (11, [.ref dr, .ref rd, .ref jd, .ref ly, .ref dv, .ref pl, .ref jo, .ref sc, .ref ck])), (ly, .inr (4, [.int 0, .ref (rY 0), .ref (rY 1), .ref (rY 2), .ref (rY 3), .ref (rY 4), .ref (rY 5), .ref ho, .ref (rY 6), .ref (rY 7), .ref (rY 8), .ref (rY 9), .ref lru]))] sz)) 0 0 (va_A [(x, .inr (11, [.ref dr, .ref rd, .ref jd, .ref ly, .ref dv, .ref pl, .ref jo, .ref sc, .ref ck])), (ly, .inr (4, [.int 0, .ref (rY 0), .ref (rY 1), .ref (rY 2), .ref (rY 3), .ref (rY 4), .ref (rY 5), .ref ho, .ref (rY 6), .ref (rY 7), .ref (rY 8), .ref (rY 9), .ref lru]))] sz) := by
  refine Met.ofW (cc := cX11_check) (maxL := 2) (ret := (some .int)) (by decide) rfl ?_
  intro p e s m args below meth c s₁ B hml hv
  obtain ⟨rfl, hsz, hP, hK, hD0⟩ := hv
  have hx := B.exec
  have hb := B.bytes
  have hr := B.returns
  have hgt := fun w (h : w ∈ GT) => atoms_spec (ws := wsX11_check) B.pre w (List.mem_cons_of_mem _ h)
  have hown : s.vm.findClass RX11 = some m.cls := findClass_of_methodNamed B.named
  have hlocks := B.notSynchronized
  subst hsz
  have hD := hD0.self (sz := s.heap.size)
  generalize hAe : va_A [(x, .inr (11, [.ref dr, .ref rd, .ref jd, .ref ly, .ref dv, .ref pl, .ref jo, .ref sc, .ref ck])), (ly, .inr (4, [.int 0, .ref (rY 0), .ref (rY 1), .ref (rY 2), .ref (rY 3), .ref (rY 4), .ref (rY 5), .ref ho, .ref (rY 6), .ref (rY 7), .ref (rY 8), .ref (rY 9), .ref lru]))] s.heap.size = A at hD ⊢
  have hA : ∀ q : Nat, s.heap.size ≤ q → A q := fun q h => by rw [← hAe]; exact Or.inr h
  have hS : va_S A s.heap s.heap [] := va_S.rf
  have hP : va_P D vwCl [(x, .inr (11, [.ref dr, .ref rd, .ref jd, .ref ly, .ref dv, .ref pl, .ref jo, .ref sc, .ref ck])), (ly, .inr (4, [.int 0, .ref (rY 0), .ref (rY 1), .ref (rY 2), .ref (rY 3), .ref (rY 4), .ref (rY 5), .ref ho, .ref (rY 6), .ref (rY 7), .ref (rY 8), .ref (rY 9), .ref lru]))] s.heap := hP
  have hl := lv_entry ([.ref x]) (n := 2) (Nat.le_of_ble_eq_true rfl)
  rw [lg_entry_eq]
  generalize (lg_sl ([.ref x]) ++ List.replicate (2 - (lg_sl ([.ref x])).length) Slot.unset).toArray = ls at hl ⊢
  have hl : lv_has ls 2 [(0, .ref x)] := hl
  refine lv_aload_n hx hb dX11_check_0 rfl (lv_at hl 0 rfl) ?_
  have hPc := hP.sub (ws' := [(x, .inr (11, [.ref dr, .ref rd, .ref jd, .ref ly, .ref dv, .ref pl, .ref jo, .ref sc, .ref ck])), (ly, .inr (4, [.int 0, .ref (rY 0), .ref (rY 1), .ref (rY 2), .ref (rY 3), .ref (rY 4), .ref (rY 5), .ref ho, .ref (rY 6), .ref (rY 7), .ref (rY 8), .ref (rY 9), .ref lru]))]) [0, 1] rfl
  have hDc := hD.sub (ws' := [(x, .inr (11, [.ref dr, .ref rd, .ref jd, .ref ly, .ref dv, .ref pl, .ref jo, .ref sc, .ref ck])), (ly, .inr (4, [.int 0, .ref (rY 0), .ref (rY 1), .ref (rY 2), .ref (rY 3), .ref (rY 4), .ref (rY 5), .ref ho, .ref (rY 6), .ref (rY 7), .ref (rY 8), .ref (rY 9), .ref lru]))]) [0, 1] (by decide) rfl
  have hFc := va_free (wc := [(x, .inr (11, [.ref dr, .ref rd, .ref jd, .ref ly, .ref dv, .ref pl, .ref jo, .ref sc, .ref ck])), (ly, .inr (4, [.int 0, .ref (rY 0), .ref (rY 1), .ref (rY 2), .ref (rY 3), .ref (rY 4), .ref (rY 5), .ref ho, .ref (rY 6), .ref (rY 7), .ref (rY 8), .ref (rY 9), .ref lru]))]) hD hS hA [0, 1] rfl
  refine va_calli (va_runV (As := []) (rest := []) ⟨hx, hb, hml, hown, hgt⟩ (x_hasMap l D cI cZ cC cJ x dr rd jd ly dv pl jo sc ck rY ho lru s.heap.size) (cwV 0 hgt (gV wd_2_81 wd_2_83 sl__ChipMap____ChipMap___hasMap_____Z_____ChipMap___hasMap_____Z__ wd_0_1 wd_2_84) rfl rfl rfl (by decide +kernel) ⟨Nat.le_of_ble_eq_true rfl, Nat.le_of_ble_eq_true rfl⟩) ⟨fun a U g mk q => by obtain ⟨q0, q1, qP, qK, qD⟩ := q; exact ⟨q0, q1, qP, va_K.moved (u := U) (U := U.calling g mk a) (Vm.Alike.refl U.vm) qK, qD⟩, va_recv hK hP (ci := 11) (q0 := 0) rfl rfl, fun U hU hW => ⟨rfl, by rw [hU], by rw [hU]; exact hPc, va_K.moved hW.alike hK, hDc.weaken (fun _ _ _ _ => trivial)⟩⟩ rfl rfl hl.1 rfl (lv_room (Nat.le_of_ble_eq_true rfl)) dX11_check_1 ⟨Nat.le_of_ble_eq_true rfl, Nat.le_of_ble_eq_true rfl⟩) hS (fun q _ h => hFc q h) hFc (fun r u t H1 locs ht hvm hw hB hz1 hk1 hS => ?_)
  obtain ⟨hP1, hD1⟩ := hB
  rw [ht] at hP1
  obtain ⟨hP, hD⟩ := va_join (wr := []) (w1 := [(x, .inr (11, [.ref dr, .ref rd, .ref jd, .ref ly, .ref dv, .ref pl, .ref jo, .ref sc, .ref ck])), (ly, .inr (4, [.int 0, .ref (rY 0), .ref (rY 1), .ref (rY 2), .ref (rY 3), .ref (rY 4), .ref (rY 5), .ref ho, .ref (rY 6), .ref (rY 7), .ref (rY 8), .ref (rY 9), .ref lru]))]) hP hD [0, 1] [] rfl rfl (by decide) (by decide) hk1 hFc hP1 hD1
  generalize H1 = H at hP hS ⊢
  have hP : va_P D vwCl [(x, .inr (11, [.ref dr, .ref rd, .ref jd, .ref ly, .ref dv, .ref pl, .ref jo, .ref sc, .ref ck])), (ly, .inr (4, [.int 0, .ref (rY 0), .ref (rY 1), .ref (rY 2), .ref (rY 3), .ref (rY 4), .ref (rY 5), .ref ho, .ref (rY 6), .ref (rY 7), .ref (rY 8), .ref (rY 9), .ref lru]))] H := hP
  have hD : va_D A [(x, .inr (11, [.ref dr, .ref rd, .ref jd, .ref ly, .ref dv, .ref pl, .ref jo, .ref sc, .ref ck])), (ly, .inr (4, [.int 0, .ref (rY 0), .ref (rY 1), .ref (rY 2), .ref (rY 3), .ref (rY 4), .ref (rY 5), .ref ho, .ref (rY 6), .ref (rY 7), .ref (rY 8), .ref (rY 9), .ref lru]))] := hD
  obtain rfl : r = 0 := hw
  refine lv_if_ne hx hb dX11_check_4 (tgt := 9) rfl (fun h_4 => absurd (by decide) h_4) (fun _ => ?_)
  refine lv_iconst (v := (-1)) hx hb dX11_check_7 (by decide) ?_
  refine W.widen (k := 0) (n := 0) (Nat.le_of_ble_eq_true rfl) (Nat.le_of_ble_eq_true rfl) ?_
  exact W.iret (v := (-1)) hx hb hr (fun t ht hW => ⟨⟨(-1), (), rfl, rfl, trivial⟩, hS.F ht⟩) hS.2.2 dX11_check_8
set_option maxHeartbeats 4000000 in
set_option maxRecDepth 100000 in
theorem x_run (l : Launch) (D : va_G) (cI cZ cC cJ : ClassId) (x : Nat) (dr : Nat) (rd : Nat) (jd : Nat) (ly : Nat) (dv : Nat) (pl : Nat) (jo : Nat) (sc : Nat) (ck : Nat) (rY : Nat → Nat) (ho : Nat) (lru : Nat) (f : Int32) (sz : Nat) : Met l yX11_run wsX11_run ({ frames := 1, cells := 0, slots := 0, locals := 20 }) (va_Pc [.ref x, .int f] (fun U => U.heap.size = sz ∧ va_P D vwCl [(x, .inr (11, [.ref dr, .ref rd, .ref jd, .ref ly, .ref dv, .ref pl, .ref jo, .ref sc, .ref ck])), (ly, .inr (4, [.int 0, .ref (rY 0), .ref (rY 1), .ref (rY 2), .ref (rY 3), .ref (rY 4), .ref (rY 5), .ref ho, .ref (rY 6), .ref (rY 7), .ref (rY 8), .ref (rY 9), .ref lru]))] U.heap ∧ va_K D vwCl [(cI, .int), (cZ, .boolean), (cC, .char), (cJ, .long)] U ∧ va_D (fun _ => True) [(x, .inr (11, [.ref dr, .ref rd, .ref jd, .ref ly, .ref dv, .ref pl, .ref jo, .ref sc, .ref ck])), (ly, .inr (4, [.int 0, .ref (rY 0), .ref (rY 1), .ref (rY 2), .ref (rY 3), .ref (rY 4), .ref (rY 5), .ref ho, .ref (rY 6), .ref (rY 7), .ref (rY 8), .ref (rY 9), .ref lru]))])) (va_Qi (fun (r : Int32) (_ : Unit) => r = (-1)) (fun _ _ => True) (va_A [(x, .inr (11, [.ref dr, .ref rd, .ref jd, .ref ly, .ref dv, .ref pl, .ref jo, .ref sc, .ref ck])), (ly, .inr (4, [.int 0, .ref (rY 0), .ref (rY 1), .ref (rY 2), .ref (rY 3), .ref (rY 4), .ref (rY 5), .ref ho, .ref (rY 6), .ref (rY 7), .ref (rY 8), .ref (rY 9), .ref lru]))] sz)) 0 0 (va_A [(x, .inr (11, [.ref dr, .ref rd, .ref jd, .ref ly, .ref dv, .ref pl, .ref jo, .ref sc, .ref ck])), (ly, .inr (4, [.int 0, .ref (rY 0), .ref (rY 1), .ref (rY 2), .ref (rY 3), .ref (rY 4), .ref (rY 5), .ref ho, .ref (rY 6), .ref (rY 7), .ref (rY 8), .ref (rY 9), .ref lru]))] sz) := by
  refine Met.ofW (cc := cX11_run) (maxL := 6) (ret := (some .int)) (by decide) rfl ?_
  intro p e s m args below meth c s₁ B hml hv
  obtain ⟨rfl, hsz, hP, hK, hD0⟩ := hv
  have hx := B.exec
  have hb := B.bytes
  have hr := B.returns
  have hgt := fun w (h : w ∈ GT) => atoms_spec (ws := wsX11_run) B.pre w (List.mem_cons_of_mem _ h)
  have hown : s.vm.findClass RX11 = some m.cls := findClass_of_methodNamed B.named
  have hlocks := B.notSynchronized
  subst hsz
  have hD := hD0.self (sz := s.heap.size)
  generalize hAe : va_A [(x, .inr (11, [.ref dr, .ref rd, .ref jd, .ref ly, .ref dv, .ref pl, .ref jo, .ref sc, .ref ck])), (ly, .inr (4, [.int 0, .ref (rY 0), .ref (rY 1), .ref (rY 2), .ref (rY 3), .ref (rY 4), .ref (rY 5), .ref ho, .ref (rY 6), .ref (rY 7), .ref (rY 8), .ref (rY 9), .ref lru]))] s.heap.size = A at hD ⊢
  have hA : ∀ q : Nat, s.heap.size ≤ q → A q := fun q h => by rw [← hAe]; exact Or.inr h
  have hS : va_S A s.heap s.heap [] := va_S.rf
  have hP : va_P D vwCl [(x, .inr (11, [.ref dr, .ref rd, .ref jd, .ref ly, .ref dv, .ref pl, .ref jo, .ref sc, .ref ck])), (ly, .inr (4, [.int 0, .ref (rY 0), .ref (rY 1), .ref (rY 2), .ref (rY 3), .ref (rY 4), .ref (rY 5), .ref ho, .ref (rY 6), .ref (rY 7), .ref (rY 8), .ref (rY 9), .ref lru]))] s.heap := hP
  have hl := lv_entry ([.ref x, .int f]) (n := 6) (Nat.le_of_ble_eq_true rfl)
  rw [lg_entry_eq]
  generalize (lg_sl ([.ref x, .int f]) ++ List.replicate (6 - (lg_sl ([.ref x, .int f])).length) Slot.unset).toArray = ls at hl ⊢
  have hl : lv_has ls 6 [(0, .ref x), (1, .int f)] := hl
  refine lv_aload_n hx hb dX11_run_0 rfl (lv_at hl 0 rfl) ?_
  have hPc := hP.sub (ws' := [(x, .inr (11, [.ref dr, .ref rd, .ref jd, .ref ly, .ref dv, .ref pl, .ref jo, .ref sc, .ref ck])), (ly, .inr (4, [.int 0, .ref (rY 0), .ref (rY 1), .ref (rY 2), .ref (rY 3), .ref (rY 4), .ref (rY 5), .ref ho, .ref (rY 6), .ref (rY 7), .ref (rY 8), .ref (rY 9), .ref lru]))]) [0, 1] rfl
  have hDc := hD.sub (ws' := [(x, .inr (11, [.ref dr, .ref rd, .ref jd, .ref ly, .ref dv, .ref pl, .ref jo, .ref sc, .ref ck])), (ly, .inr (4, [.int 0, .ref (rY 0), .ref (rY 1), .ref (rY 2), .ref (rY 3), .ref (rY 4), .ref (rY 5), .ref ho, .ref (rY 6), .ref (rY 7), .ref (rY 8), .ref (rY 9), .ref lru]))]) [0, 1] (by decide) rfl
  have hFc := va_free (wc := [(x, .inr (11, [.ref dr, .ref rd, .ref jd, .ref ly, .ref dv, .ref pl, .ref jo, .ref sc, .ref ck])), (ly, .inr (4, [.int 0, .ref (rY 0), .ref (rY 1), .ref (rY 2), .ref (rY 3), .ref (rY 4), .ref (rY 5), .ref ho, .ref (rY 6), .ref (rY 7), .ref (rY 8), .ref (rY 9), .ref lru]))]) hD hS hA [0, 1] rfl
  refine va_calli (va_runV (As := []) (rest := []) ⟨hx, hb, hml, hown, hgt⟩ (x_hasMap l D cI cZ cC cJ x dr rd jd ly dv pl jo sc ck rY ho lru s.heap.size) (cwV 0 hgt (gV wd_2_81 wd_2_83 sl__ChipMap____ChipMap___hasMap_____Z_____ChipMap___hasMap_____Z__ wd_0_1 wd_2_84) rfl rfl rfl (by decide +kernel) ⟨Nat.le_of_ble_eq_true rfl, Nat.le_of_ble_eq_true rfl⟩) ⟨fun a U g mk q => by obtain ⟨q0, q1, qP, qK, qD⟩ := q; exact ⟨q0, q1, qP, va_K.moved (u := U) (U := U.calling g mk a) (Vm.Alike.refl U.vm) qK, qD⟩, va_recv hK hP (ci := 11) (q0 := 0) rfl rfl, fun U hU hW => ⟨rfl, by rw [hU], by rw [hU]; exact hPc, va_K.moved hW.alike hK, hDc.weaken (fun _ _ _ _ => trivial)⟩⟩ rfl rfl hl.1 rfl (lv_room (Nat.le_of_ble_eq_true rfl)) dX11_run_1 ⟨Nat.le_of_ble_eq_true rfl, Nat.le_of_ble_eq_true rfl⟩) hS (fun q _ h => hFc q h) hFc (fun r u t H1 locs ht hvm hw hB hz1 hk1 hS => ?_)
  obtain ⟨hP1, hD1⟩ := hB
  rw [ht] at hP1
  obtain ⟨hP, hD⟩ := va_join (wr := []) (w1 := [(x, .inr (11, [.ref dr, .ref rd, .ref jd, .ref ly, .ref dv, .ref pl, .ref jo, .ref sc, .ref ck])), (ly, .inr (4, [.int 0, .ref (rY 0), .ref (rY 1), .ref (rY 2), .ref (rY 3), .ref (rY 4), .ref (rY 5), .ref ho, .ref (rY 6), .ref (rY 7), .ref (rY 8), .ref (rY 9), .ref lru]))]) hP hD [0, 1] [] rfl rfl (by decide) (by decide) hk1 hFc hP1 hD1
  generalize H1 = H at hP hS ⊢
  have hP : va_P D vwCl [(x, .inr (11, [.ref dr, .ref rd, .ref jd, .ref ly, .ref dv, .ref pl, .ref jo, .ref sc, .ref ck])), (ly, .inr (4, [.int 0, .ref (rY 0), .ref (rY 1), .ref (rY 2), .ref (rY 3), .ref (rY 4), .ref (rY 5), .ref ho, .ref (rY 6), .ref (rY 7), .ref (rY 8), .ref (rY 9), .ref lru]))] H := hP
  have hD : va_D A [(x, .inr (11, [.ref dr, .ref rd, .ref jd, .ref ly, .ref dv, .ref pl, .ref jo, .ref sc, .ref ck])), (ly, .inr (4, [.int 0, .ref (rY 0), .ref (rY 1), .ref (rY 2), .ref (rY 3), .ref (rY 4), .ref (rY 5), .ref ho, .ref (rY 6), .ref (rY 7), .ref (rY 8), .ref (rY 9), .ref lru]))] := hD
  obtain rfl : r = 0 := hw
  refine lv_if_eq hx hb dX11_run_4 (tgt := 17) rfl (fun _ => ?_) (fun h_4 => absurd (by decide) h_4)
  refine lv_iconst (v := (-1)) hx hb dX11_run_17 (by decide) ?_
  refine W.widen (k := 0) (n := 0) (Nat.le_of_ble_eq_true rfl) (Nat.le_of_ble_eq_true rfl) ?_
  exact W.iret (v := (-1)) hx hb hr (fun t ht hW => ⟨⟨(-1), (), rfl, rfl, trivial⟩, hS.F ht⟩) hS.2.2 dX11_run_18
set_option maxHeartbeats 4000000 in
set_option maxRecDepth 100000 in
theorem x_empty (l : Launch) (D : va_G) (cI cZ cC cJ : ClassId) (st : Nat) (sk : Nat) (rS : Nat → Nat) (sz : Nat) : Met l yX10_empty wsX10_empty ({ frames := 0, cells := 0, slots := 0, locals := 0 }) (va_Pc [.ref st] (fun U => U.heap.size = sz ∧ va_P D vwCl [(st, .inr (10, [.int 0, .ref sk, .ref (rS 0), .ref (rS 1)]))] U.heap ∧ va_K D vwCl [(cI, .int), (cZ, .boolean), (cC, .char), (cJ, .long)] U ∧ va_D (fun _ => True) [(st, .inr (10, [.int 0, .ref sk, .ref (rS 0), .ref (rS 1)]))])) (va_Qi (fun (r : Int32) (_ : Unit) => r = 0) (fun _ _ => True) (va_A [(st, .inr (10, [.int 0, .ref sk, .ref (rS 0), .ref (rS 1)]))] sz)) 0 0 (va_A [(st, .inr (10, [.int 0, .ref sk, .ref (rS 0), .ref (rS 1)]))] sz) := by
  refine Met.ofW (cc := cX10_empty) (maxL := 2) (ret := (some .int)) (by decide) rfl ?_
  intro p e s m args below meth c s₁ B hml hv
  obtain ⟨rfl, hsz, hP, hK, hD0⟩ := hv
  have hx := B.exec
  have hb := B.bytes
  have hr := B.returns
  have hgt := fun w (h : w ∈ GT) => atoms_spec (ws := wsX10_empty) B.pre w (List.mem_cons_of_mem _ h)
  have hown : s.vm.findClass RX10 = some m.cls := findClass_of_methodNamed B.named
  have hlocks := B.notSynchronized
  subst hsz
  have hD := hD0.self (sz := s.heap.size)
  generalize hAe : va_A [(st, .inr (10, [.int 0, .ref sk, .ref (rS 0), .ref (rS 1)]))] s.heap.size = A at hD ⊢
  have hA : ∀ q : Nat, s.heap.size ≤ q → A q := fun q h => by rw [← hAe]; exact Or.inr h
  have hS : va_S A s.heap s.heap [] := va_S.rf
  have hP : va_P D vwCl [(st, .inr (10, [.int 0, .ref sk, .ref (rS 0), .ref (rS 1)]))] s.heap := hP
  have hl := lv_entry ([.ref st]) (n := 2) (Nat.le_of_ble_eq_true rfl)
  rw [lg_entry_eq]
  generalize (lg_sl ([.ref st]) ++ List.replicate (2 - (lg_sl ([.ref st])).length) Slot.unset).toArray = ls at hl ⊢
  have hl : lv_has ls 2 [(0, .ref st)] := hl
  refine lv_aload_n hx hb dX10_empty_0 rfl (lv_at hl 0 rfl) ?_
  refine va_get (D := D) (ci := 10) (v := .int 0) (C := RX10) (T := TX10) (N := 4) hx hb hgt iwX10 hown hK hP 0 rfl rfl 0 (Nat.le_of_ble_eq_true rfl) (hgt _ wd_1_191) (fun _ h9 => h9) rfl dX10_empty_1 ?_
  refine lv_istore_n hx hb dX10_empty_4 rfl hl (Nat.le_of_ble_eq_true rfl) (lv' := [(1, .int 0), (0, .ref st)]) rfl (fun ls hl => ?_)
  refine lv_aload_n hx hb dX10_empty_5 rfl (lv_at hl 1 rfl) ?_
  refine lv_iconst (v := 0) hx hb dX10_empty_6 (by decide) ?_
  refine va_put (D := D) (ci := 10) (v := .int 0) (ty := .int) (C := RX10) (T := TX10) (N := 4) hx hb hgt iwX10 tyX10 tyX10_ok nmX10 hown hK hP hD hS 0 rfl rfl 0 (Nat.le_of_ble_eq_true rfl) (hgt _ wd_1_191) (fun _ h9 => h9) rfl (by decide +kernel) rfl rfl (Nat.le_of_ble_eq_true rfl) dX10_empty_7 (fun H locs hP hD hS => ?_)
  have hP : va_P D vwCl [(st, .inr (10, [.int 0, .ref sk, .ref (rS 0), .ref (rS 1)]))] H := hP
  have hD : va_D A [(st, .inr (10, [.int 0, .ref sk, .ref (rS 0), .ref (rS 1)]))] := hD
  refine lv_iload_n hx hb dX10_empty_10 rfl (lv_at hl 0 rfl) ?_
  refine W.widen (k := 0) (n := 0) (Nat.le_of_ble_eq_true rfl) (Nat.le_of_ble_eq_true rfl) ?_
  exact W.iret (v := 0) hx hb hr (fun t ht hW => ⟨⟨0, (), rfl, rfl, trivial⟩, hS.F ht⟩) hS.2.2 dX10_empty_11
set_option maxHeartbeats 4000000 in
set_option maxRecDepth 100000 in
theorem x_isFull (l : Launch) (D : va_G) (cI cZ cC cJ : ClassId) (st : Nat) (sk : Nat) (rS : Nat → Nat) (fk : Nat → Int32) (sz : Nat) : Met l yX10_isFull wsX10_isFull ({ frames := 0, cells := 0, slots := 0, locals := 0 }) (va_Pc [.ref st] (fun U => U.heap.size = sz ∧ va_P D vwCl [(st, .inr (10, [.int 0, .ref sk, .ref (rS 0), .ref (rS 1)])), (sk, .inl (cI, 40, .inl fk))] U.heap ∧ va_K D vwCl [(cI, .int), (cZ, .boolean), (cC, .char), (cJ, .long)] U ∧ va_D (fun _ => True) [(st, .inr (10, [.int 0, .ref sk, .ref (rS 0), .ref (rS 1)])), (sk, .inl (cI, 40, .inl fk))])) (va_Qi (fun (r : Int32) (_ : Unit) => r = 0) (fun _ t => va_P D vwCl [(st, .inr (10, [.int 0, .ref sk, .ref (rS 0), .ref (rS 1)])), (sk, .inl (cI, 40, .inl fk))] t.heap ∧ va_D (va_A [(st, .inr (10, [.int 0, .ref sk, .ref (rS 0), .ref (rS 1)])), (sk, .inl (cI, 40, .inl fk))] sz) [(st, .inr (10, [.int 0, .ref sk, .ref (rS 0), .ref (rS 1)])), (sk, .inl (cI, 40, .inl fk))]) (va_A [(st, .inr (10, [.int 0, .ref sk, .ref (rS 0), .ref (rS 1)])), (sk, .inl (cI, 40, .inl fk))] sz)) 0 0 (va_A [(st, .inr (10, [.int 0, .ref sk, .ref (rS 0), .ref (rS 1)])), (sk, .inl (cI, 40, .inl fk))] sz) := by
  refine Met.ofW (cc := cX10_isFull) (maxL := 1) (ret := (some .boolean)) (by decide) rfl ?_
  intro p e s m args below meth c s₁ B hml hv
  obtain ⟨rfl, hsz, hP, hK, hD0⟩ := hv
  have hx := B.exec
  have hb := B.bytes
  have hr := B.returns
  have hgt := fun w (h : w ∈ GT) => atoms_spec (ws := wsX10_isFull) B.pre w (List.mem_cons_of_mem _ h)
  have hown : s.vm.findClass RX10 = some m.cls := findClass_of_methodNamed B.named
  have hlocks := B.notSynchronized
  subst hsz
  have hD := hD0.self (sz := s.heap.size)
  generalize hAe : va_A [(st, .inr (10, [.int 0, .ref sk, .ref (rS 0), .ref (rS 1)])), (sk, .inl (cI, 40, .inl fk))] s.heap.size = A at hD ⊢
  have hA : ∀ q : Nat, s.heap.size ≤ q → A q := fun q h => by rw [← hAe]; exact Or.inr h
  have hS : va_S A s.heap s.heap [] := va_S.rf
  have hP : va_P D vwCl [(st, .inr (10, [.int 0, .ref sk, .ref (rS 0), .ref (rS 1)])), (sk, .inl (cI, 40, .inl fk))] s.heap := hP
  have hl := lv_entry ([.ref st]) (n := 1) (Nat.le_of_ble_eq_true rfl)
  rw [lg_entry_eq]
  generalize (lg_sl ([.ref st]) ++ List.replicate (1 - (lg_sl ([.ref st])).length) Slot.unset).toArray = ls at hl ⊢
  have hl : lv_has ls 1 [(0, .ref st)] := hl
  refine lv_aload_n hx hb dX10_isFull_0 rfl (lv_at hl 0 rfl) ?_
  refine va_get (D := D) (ci := 10) (v := .int 0) (C := RX10) (T := TX10) (N := 4) hx hb hgt iwX10 hown hK hP 0 rfl rfl 0 (Nat.le_of_ble_eq_true rfl) (hgt _ wd_1_191) (fun _ h9 => h9) rfl dX10_isFull_1 ?_
  refine lv_aload_n hx hb dX10_isFull_4 rfl (lv_at hl 0 rfl) ?_
  refine va_get (D := D) (ci := 10) (v := .ref sk) (C := RX10) (T := TX10) (N := 4) hx hb hgt iwX10 hown hK hP 0 rfl rfl 1 (Nat.le_of_ble_eq_true rfl) (hgt _ wd_1_195) (fun _ h9 => h9) rfl dX10_isFull_5 ?_
  refine va_alen (v := 40) hx hb hK hP 1 0 rfl rfl rfl dX10_isFull_8 ?_
  refine lv_icmp_lt hx hb dX10_isFull_9 (tgt := 16) rfl (fun _ => ?_) (fun h_9 => absurd (by decide) h_9)
  refine lv_iconst (v := 0) hx hb dX10_isFull_16 (by decide) ?_
  have hP9 := hP.sub (ws' := [(st, .inr (10, [.int 0, .ref sk, .ref (rS 0), .ref (rS 1)])), (sk, .inl (cI, 40, .inl fk))]) [0, 1] rfl
  have hD9 := hD.sub (ws' := [(st, .inr (10, [.int 0, .ref sk, .ref (rS 0), .ref (rS 1)])), (sk, .inl (cI, 40, .inl fk))]) [0, 1] (by decide) rfl
  refine W.widen (k := 0) (n := 0) (Nat.le_of_ble_eq_true rfl) (Nat.le_of_ble_eq_true rfl) ?_
  exact W.zret (v := 0) (ty := .boolean) hx hb hr (by decide) (fun t ht hW => ⟨⟨0, (), rfl, rfl, by rw [ht]; exact hP9, hD9⟩, hS.F ht⟩) hS.2.2 dX10_isFull_17
set_option maxHeartbeats 4000000 in
set_option maxRecDepth 100000 in
theorem x_drop (l : Launch) (D : va_G) (cI cZ cC cJ : ClassId) (x : Nat) (dr : Nat) (rd : Nat) (jd : Nat) (ly : Nat) (dv : Nat) (pl : Nat) (jo : Nat) (sc : Nat) (ck : Nat) (sk : Nat) (rS : Nat → Nat) (sz : Nat) : Met l yX11_drop wsX11_drop ({ frames := 1, cells := 0, slots := 0, locals := 21 }) (va_Pc [.ref x] (fun U => U.heap.size = sz ∧ va_P D vwCl [(x, .inr (11, [.ref dr, .ref rd, .ref jd, .ref ly, .ref dv, .ref pl, .ref jo, .ref sc, .ref ck])), (jo, .inr (10, [.int 0, .ref sk, .ref (rS 0), .ref (rS 1)]))] U.heap ∧ va_K D vwCl [(cI, .int), (cZ, .boolean), (cC, .char), (cJ, .long)] U ∧ va_D (fun _ => True) [(x, .inr (11, [.ref dr, .ref rd, .ref jd, .ref ly, .ref dv, .ref pl, .ref jo, .ref sc, .ref ck])), (jo, .inr (10, [.int 0, .ref sk, .ref (rS 0), .ref (rS 1)]))])) (va_Qi (fun (r : Int32) (_ : Unit) => r = 0) (fun _ _ => True) (va_A [(x, .inr (11, [.ref dr, .ref rd, .ref jd, .ref ly, .ref dv, .ref pl, .ref jo, .ref sc, .ref ck])), (jo, .inr (10, [.int 0, .ref sk, .ref (rS 0), .ref (rS 1)]))] sz)) 0 0 (va_A [(x, .inr (11, [.ref dr, .ref rd, .ref jd, .ref ly, .ref dv, .ref pl, .ref jo, .ref sc, .ref ck])), (jo, .inr (10, [.int 0, .ref sk, .ref (rS 0), .ref (rS 1)]))] sz) := by
  refine Met.ofW (cc := cX11_drop) (maxL := 1) (ret := (some .int)) (by decide) rfl ?_
  intro p e s m args below meth c s₁ B hml hv
  obtain ⟨rfl, hsz, hP, hK, hD0⟩ := hv
  have hx := B.exec
  have hb := B.bytes
  have hr := B.returns
  have hgt := fun w (h : w ∈ GT) => atoms_spec (ws := wsX11_drop) B.pre w (List.mem_cons_of_mem _ h)
  have hown : s.vm.findClass RX11 = some m.cls := findClass_of_methodNamed B.named
  have hlocks := B.notSynchronized
  subst hsz
  have hD := hD0.self (sz := s.heap.size)
  generalize hAe : va_A [(x, .inr (11, [.ref dr, .ref rd, .ref jd, .ref ly, .ref dv, .ref pl, .ref jo, .ref sc, .ref ck])), (jo, .inr (10, [.int 0, .ref sk, .ref (rS 0), .ref (rS 1)]))] s.heap.size = A at hD ⊢
  have hA : ∀ q : Nat, s.heap.size ≤ q → A q := fun q h => by rw [← hAe]; exact Or.inr h
  have hS : va_S A s.heap s.heap [] := va_S.rf
  have hP : va_P D vwCl [(x, .inr (11, [.ref dr, .ref rd, .ref jd, .ref ly, .ref dv, .ref pl, .ref jo, .ref sc, .ref ck])), (jo, .inr (10, [.int 0, .ref sk, .ref (rS 0), .ref (rS 1)]))] s.heap := hP
  have hl := lv_entry ([.ref x]) (n := 1) (Nat.le_of_ble_eq_true rfl)
  rw [lg_entry_eq]
  generalize (lg_sl ([.ref x]) ++ List.replicate (1 - (lg_sl ([.ref x])).length) Slot.unset).toArray = ls at hl ⊢
  have hl : lv_has ls 1 [(0, .ref x)] := hl
  refine lv_aload_n hx hb dX11_drop_0 rfl (lv_at hl 0 rfl) ?_
  refine va_get (D := D) (ci := 11) (v := .ref jo) (C := RX11) (T := TX11) (N := 9) hx hb hgt iwX11 hown hK hP 0 rfl rfl 6 (Nat.le_of_ble_eq_true rfl) (hgt _ wd_2_23) (fun _ h9 => h9) rfl dX11_drop_1 ?_
  have hPc := hP.sub (ws' := [(jo, .inr (10, [.int 0, .ref sk, .ref (rS 0), .ref (rS 1)]))]) [1] rfl
  have hDc := hD.sub (ws' := [(jo, .inr (10, [.int 0, .ref sk, .ref (rS 0), .ref (rS 1)]))]) [1] (by decide) rfl
  have hFc := va_free (wc := [(jo, .inr (10, [.int 0, .ref sk, .ref (rS 0), .ref (rS 1)]))]) hD hS hA [1] rfl
  refine va_calli (va_runV (As := []) (rest := []) ⟨hx, hb, hml, hown, hgt⟩ (x_empty l D cI cZ cC cJ jo sk rS s.heap.size) (cwV 0 hgt (gV wd_3_16 wd_3_17 wd_3_18 wd_0_13 wd_3_19) rfl rfl rfl (by decide +kernel) ⟨Nat.le_of_ble_eq_true rfl, Nat.le_of_ble_eq_true rfl⟩) ⟨fun a U g mk q => by obtain ⟨q0, q1, qP, qK, qD⟩ := q; exact ⟨q0, q1, qP, va_K.moved (u := U) (U := U.calling g mk a) (Vm.Alike.refl U.vm) qK, qD⟩, va_recv hK hP (ci := 10) (q0 := 1) rfl rfl, fun U hU hW => ⟨rfl, by rw [hU], by rw [hU]; exact hPc, va_K.moved hW.alike hK, hDc.weaken (fun _ _ _ _ => trivial)⟩⟩ rfl rfl hl.1 rfl (lv_room (Nat.le_of_ble_eq_true rfl)) dX11_drop_4 ⟨Nat.le_of_ble_eq_true rfl, Nat.le_of_ble_eq_true rfl⟩) hS (fun q _ h => hFc q h) hFc (fun r u t H1 locs ht hvm hw hB hz1 hk1 hS => ?_)
  have hP1 : va_P D vwCl [] H1 := fun k q h => by simp at h
  have hD1 : va_D (va_A [(jo, .inr (10, [.int 0, .ref sk, .ref (rS 0), .ref (rS 1)]))] s.heap.size) [] := ⟨fun i j p q h => by simp at h, fun k q h => by simp at h⟩
  obtain ⟨hP, hD⟩ := va_join (wr := [(x, .inr (11, [.ref dr, .ref rd, .ref jd, .ref ly, .ref dv, .ref pl, .ref jo, .ref sc, .ref ck]))]) (w1 := []) hP hD [1] [0] rfl rfl (by decide) (by decide) hk1 hFc hP1 hD1
  generalize H1 = H at hP hS ⊢
  have hP : va_P D vwCl [(x, .inr (11, [.ref dr, .ref rd, .ref jd, .ref ly, .ref dv, .ref pl, .ref jo, .ref sc, .ref ck]))] H := hP
  have hD : va_D A [(x, .inr (11, [.ref dr, .ref rd, .ref jd, .ref ly, .ref dv, .ref pl, .ref jo, .ref sc, .ref ck]))] := hD
  obtain rfl : r = 0 := hw
  refine W.widen (k := 0) (n := 0) (Nat.le_of_ble_eq_true rfl) (Nat.le_of_ble_eq_true rfl) ?_
  exact W.iret (v := 0) hx hb hr (fun t ht hW => ⟨⟨0, (), rfl, rfl, trivial⟩, hS.F ht⟩) hS.2.2 dX11_drop_7
set_option maxHeartbeats 4000000 in
set_option maxRecDepth 100000 in
theorem x_erase (l : Launch) (D : va_G) (cI cZ cC cJ : ClassId) (x : Nat) (dr : Nat) (rd : Nat) (jd : Nat) (ly : Nat) (dv : Nat) (pl : Nat) (jo : Nat) (sc : Nat) (ck : Nat) (sk : Nat) (rS : Nat → Nat) (sz : Nat) : Met l yX11_erase wsX11_erase ({ frames := 1, cells := 0, slots := 0, locals := 21 }) (va_Pc [.ref x] (fun U => U.heap.size = sz ∧ va_P D vwCl [(x, .inr (11, [.ref dr, .ref rd, .ref jd, .ref ly, .ref dv, .ref pl, .ref jo, .ref sc, .ref ck])), (sc, .inr (10, [.int 0, .ref sk, .ref (rS 0), .ref (rS 1)]))] U.heap ∧ va_K D vwCl [(cI, .int), (cZ, .boolean), (cC, .char), (cJ, .long)] U ∧ va_D (fun _ => True) [(x, .inr (11, [.ref dr, .ref rd, .ref jd, .ref ly, .ref dv, .ref pl, .ref jo, .ref sc, .ref ck])), (sc, .inr (10, [.int 0, .ref sk, .ref (rS 0), .ref (rS 1)]))])) (va_Qi (fun (r : Int32) (_ : Unit) => r = 0) (fun _ _ => True) (va_A [(x, .inr (11, [.ref dr, .ref rd, .ref jd, .ref ly, .ref dv, .ref pl, .ref jo, .ref sc, .ref ck])), (sc, .inr (10, [.int 0, .ref sk, .ref (rS 0), .ref (rS 1)]))] sz)) 0 0 (va_A [(x, .inr (11, [.ref dr, .ref rd, .ref jd, .ref ly, .ref dv, .ref pl, .ref jo, .ref sc, .ref ck])), (sc, .inr (10, [.int 0, .ref sk, .ref (rS 0), .ref (rS 1)]))] sz) := by
  refine Met.ofW (cc := cX11_erase) (maxL := 1) (ret := (some .int)) (by decide) rfl ?_
  intro p e s m args below meth c s₁ B hml hv
  obtain ⟨rfl, hsz, hP, hK, hD0⟩ := hv
  have hx := B.exec
  have hb := B.bytes
  have hr := B.returns
  have hgt := fun w (h : w ∈ GT) => atoms_spec (ws := wsX11_erase) B.pre w (List.mem_cons_of_mem _ h)
  have hown : s.vm.findClass RX11 = some m.cls := findClass_of_methodNamed B.named
  have hlocks := B.notSynchronized
  subst hsz
  have hD := hD0.self (sz := s.heap.size)
  generalize hAe : va_A [(x, .inr (11, [.ref dr, .ref rd, .ref jd, .ref ly, .ref dv, .ref pl, .ref jo, .ref sc, .ref ck])), (sc, .inr (10, [.int 0, .ref sk, .ref (rS 0), .ref (rS 1)]))] s.heap.size = A at hD ⊢
  have hA : ∀ q : Nat, s.heap.size ≤ q → A q := fun q h => by rw [← hAe]; exact Or.inr h
  have hS : va_S A s.heap s.heap [] := va_S.rf
  have hP : va_P D vwCl [(x, .inr (11, [.ref dr, .ref rd, .ref jd, .ref ly, .ref dv, .ref pl, .ref jo, .ref sc, .ref ck])), (sc, .inr (10, [.int 0, .ref sk, .ref (rS 0), .ref (rS 1)]))] s.heap := hP
  have hl := lv_entry ([.ref x]) (n := 1) (Nat.le_of_ble_eq_true rfl)
  rw [lg_entry_eq]
  generalize (lg_sl ([.ref x]) ++ List.replicate (1 - (lg_sl ([.ref x])).length) Slot.unset).toArray = ls at hl ⊢
  have hl : lv_has ls 1 [(0, .ref x)] := hl
  refine lv_aload_n hx hb dX11_erase_0 rfl (lv_at hl 0 rfl) ?_
  refine va_get (D := D) (ci := 11) (v := .ref sc) (C := RX11) (T := TX11) (N := 9) hx hb hgt iwX11 hown hK hP 0 rfl rfl 7 (Nat.le_of_ble_eq_true rfl) (hgt _ wd_2_24) (fun _ h9 => h9) rfl dX11_erase_1 ?_
  have hPc := hP.sub (ws' := [(sc, .inr (10, [.int 0, .ref sk, .ref (rS 0), .ref (rS 1)]))]) [1] rfl
  have hDc := hD.sub (ws' := [(sc, .inr (10, [.int 0, .ref sk, .ref (rS 0), .ref (rS 1)]))]) [1] (by decide) rfl
  have hFc := va_free (wc := [(sc, .inr (10, [.int 0, .ref sk, .ref (rS 0), .ref (rS 1)]))]) hD hS hA [1] rfl
  refine va_calli (va_runV (As := []) (rest := []) ⟨hx, hb, hml, hown, hgt⟩ (x_empty l D cI cZ cC cJ sc sk rS s.heap.size) (cwV 0 hgt (gV wd_3_16 wd_3_17 wd_3_18 wd_0_13 wd_3_19) rfl rfl rfl (by decide +kernel) ⟨Nat.le_of_ble_eq_true rfl, Nat.le_of_ble_eq_true rfl⟩) ⟨fun a U g mk q => by obtain ⟨q0, q1, qP, qK, qD⟩ := q; exact ⟨q0, q1, qP, va_K.moved (u := U) (U := U.calling g mk a) (Vm.Alike.refl U.vm) qK, qD⟩, va_recv hK hP (ci := 10) (q0 := 1) rfl rfl, fun U hU hW => ⟨rfl, by rw [hU], by rw [hU]; exact hPc, va_K.moved hW.alike hK, hDc.weaken (fun _ _ _ _ => trivial)⟩⟩ rfl rfl hl.1 rfl (lv_room (Nat.le_of_ble_eq_true rfl)) dX11_erase_4 ⟨Nat.le_of_ble_eq_true rfl, Nat.le_of_ble_eq_true rfl⟩) hS (fun q _ h => hFc q h) hFc (fun r u t H1 locs ht hvm hw hB hz1 hk1 hS => ?_)
  have hP1 : va_P D vwCl [] H1 := fun k q h => by simp at h
  have hD1 : va_D (va_A [(sc, .inr (10, [.int 0, .ref sk, .ref (rS 0), .ref (rS 1)]))] s.heap.size) [] := ⟨fun i j p q h => by simp at h, fun k q h => by simp at h⟩
  obtain ⟨hP, hD⟩ := va_join (wr := [(x, .inr (11, [.ref dr, .ref rd, .ref jd, .ref ly, .ref dv, .ref pl, .ref jo, .ref sc, .ref ck]))]) (w1 := []) hP hD [1] [0] rfl rfl (by decide) (by decide) hk1 hFc hP1 hD1
  generalize H1 = H at hP hS ⊢
  have hP : va_P D vwCl [(x, .inr (11, [.ref dr, .ref rd, .ref jd, .ref ly, .ref dv, .ref pl, .ref jo, .ref sc, .ref ck]))] H := hP
  have hD : va_D A [(x, .inr (11, [.ref dr, .ref rd, .ref jd, .ref ly, .ref dv, .ref pl, .ref jo, .ref sc, .ref ck]))] := hD
  obtain rfl : r = 0 := hw
  refine W.widen (k := 0) (n := 0) (Nat.le_of_ble_eq_true rfl) (Nat.le_of_ble_eq_true rfl) ?_
  exact W.iret (v := 0) hx hb hr (fun t ht hW => ⟨⟨0, (), rfl, rfl, trivial⟩, hS.F ht⟩) hS.2.2 dX11_erase_7
set_option maxHeartbeats 4000000 in
set_option maxRecDepth 100000 in
theorem x_step (l : Launch) (D : va_G) (cI cZ cC cJ : ClassId) (x : Nat) (dr : Nat) (rd : Nat) (jd : Nat) (ly : Nat) (dv : Nat) (pl : Nat) (jo : Nat) (sc : Nat) (ck : Nat) (rY : Nat → Nat) (ho : Nat) (lru : Nat) (sk : Nat) (rS : Nat → Nat) (fk : Nat → Int32) (k : Int32) (f : Int32) (v : Int32) (sz : Nat) : Met l yX11_step wsX11_step ({ frames := 1, cells := 0, slots := 0, locals := 20 }) (va_Pc [.ref x, .int k, .int f, .int v] (fun U => U.heap.size = sz ∧ va_P D vwCl [(x, .inr (11, [.ref dr, .ref rd, .ref jd, .ref ly, .ref dv, .ref pl, .ref jo, .ref sc, .ref ck])), (sc, .inr (10, [.int 0, .ref sk, .ref (rS 0), .ref (rS 1)])), (sk, .inl (cI, 40, .inl fk)), (ly, .inr (4, [.int 0, .ref (rY 0), .ref (rY 1), .ref (rY 2), .ref (rY 3), .ref (rY 4), .ref (rY 5), .ref ho, .ref (rY 6), .ref (rY 7), .ref (rY 8), .ref (rY 9), .ref lru]))] U.heap ∧ va_K D vwCl [(cI, .int), (cZ, .boolean), (cC, .char), (cJ, .long)] U ∧ va_D (fun _ => True) [(x, .inr (11, [.ref dr, .ref rd, .ref jd, .ref ly, .ref dv, .ref pl, .ref jo, .ref sc, .ref ck])), (sc, .inr (10, [.int 0, .ref sk, .ref (rS 0), .ref (rS 1)])), (sk, .inl (cI, 40, .inl fk)), (ly, .inr (4, [.int 0, .ref (rY 0), .ref (rY 1), .ref (rY 2), .ref (rY 3), .ref (rY 4), .ref (rY 5), .ref ho, .ref (rY 6), .ref (rY 7), .ref (rY 8), .ref (rY 9), .ref lru]))])) (va_Qi (fun (r : Int32) (_ : Unit) => r = (-1)) (fun _ _ => True) (va_A [(x, .inr (11, [.ref dr, .ref rd, .ref jd, .ref ly, .ref dv, .ref pl, .ref jo, .ref sc, .ref ck])), (sc, .inr (10, [.int 0, .ref sk, .ref (rS 0), .ref (rS 1)])), (sk, .inl (cI, 40, .inl fk)), (ly, .inr (4, [.int 0, .ref (rY 0), .ref (rY 1), .ref (rY 2), .ref (rY 3), .ref (rY 4), .ref (rY 5), .ref ho, .ref (rY 6), .ref (rY 7), .ref (rY 8), .ref (rY 9), .ref lru]))] sz)) 0 0 (va_A [(x, .inr (11, [.ref dr, .ref rd, .ref jd, .ref ly, .ref dv, .ref pl, .ref jo, .ref sc, .ref ck])), (sc, .inr (10, [.int 0, .ref sk, .ref (rS 0), .ref (rS 1)])), (sk, .inl (cI, 40, .inl fk)), (ly, .inr (4, [.int 0, .ref (rY 0), .ref (rY 1), .ref (rY 2), .ref (rY 3), .ref (rY 4), .ref (rY 5), .ref ho, .ref (rY 6), .ref (rY 7), .ref (rY 8), .ref (rY 9), .ref lru]))] sz) := by
  refine Met.ofW (cc := cX11_step) (maxL := 4) (ret := (some .int)) (by decide) rfl ?_
  intro p e s m args below meth c s₁ B hml hv
  obtain ⟨rfl, hsz, hP, hK, hD0⟩ := hv
  have hx := B.exec
  have hb := B.bytes
  have hr := B.returns
  have hgt := fun w (h : w ∈ GT) => atoms_spec (ws := wsX11_step) B.pre w (List.mem_cons_of_mem _ h)
  have hown : s.vm.findClass RX11 = some m.cls := findClass_of_methodNamed B.named
  have hlocks := B.notSynchronized
  subst hsz
  have hD := hD0.self (sz := s.heap.size)
  generalize hAe : va_A [(x, .inr (11, [.ref dr, .ref rd, .ref jd, .ref ly, .ref dv, .ref pl, .ref jo, .ref sc, .ref ck])), (sc, .inr (10, [.int 0, .ref sk, .ref (rS 0), .ref (rS 1)])), (sk, .inl (cI, 40, .inl fk)), (ly, .inr (4, [.int 0, .ref (rY 0), .ref (rY 1), .ref (rY 2), .ref (rY 3), .ref (rY 4), .ref (rY 5), .ref ho, .ref (rY 6), .ref (rY 7), .ref (rY 8), .ref (rY 9), .ref lru]))] s.heap.size = A at hD ⊢
  have hA : ∀ q : Nat, s.heap.size ≤ q → A q := fun q h => by rw [← hAe]; exact Or.inr h
  have hS : va_S A s.heap s.heap [] := va_S.rf
  have hP : va_P D vwCl [(x, .inr (11, [.ref dr, .ref rd, .ref jd, .ref ly, .ref dv, .ref pl, .ref jo, .ref sc, .ref ck])), (sc, .inr (10, [.int 0, .ref sk, .ref (rS 0), .ref (rS 1)])), (sk, .inl (cI, 40, .inl fk)), (ly, .inr (4, [.int 0, .ref (rY 0), .ref (rY 1), .ref (rY 2), .ref (rY 3), .ref (rY 4), .ref (rY 5), .ref ho, .ref (rY 6), .ref (rY 7), .ref (rY 8), .ref (rY 9), .ref lru]))] s.heap := hP
  have hl := lv_entry ([.ref x, .int k, .int f, .int v]) (n := 4) (Nat.le_of_ble_eq_true rfl)
  rw [lg_entry_eq]
  generalize (lg_sl ([.ref x, .int k, .int f, .int v]) ++ List.replicate (4 - (lg_sl ([.ref x, .int k, .int f, .int v])).length) Slot.unset).toArray = ls at hl ⊢
  have hl : lv_has ls 4 [(0, .ref x), (1, .int k), (2, .int f), (3, .int v)] := hl
  refine lv_aload_n hx hb dX11_step_0 rfl (lv_at hl 0 rfl) ?_
  refine va_get (D := D) (ci := 11) (v := .ref sc) (C := RX11) (T := TX11) (N := 9) hx hb hgt iwX11 hown hK hP 0 rfl rfl 7 (Nat.le_of_ble_eq_true rfl) (hgt _ wd_2_24) (fun _ h9 => h9) rfl dX11_step_1 ?_
  have hPc := hP.sub (ws' := [(sc, .inr (10, [.int 0, .ref sk, .ref (rS 0), .ref (rS 1)])), (sk, .inl (cI, 40, .inl fk))]) [1, 2] rfl
  have hDc := hD.sub (ws' := [(sc, .inr (10, [.int 0, .ref sk, .ref (rS 0), .ref (rS 1)])), (sk, .inl (cI, 40, .inl fk))]) [1, 2] (by decide) rfl
  have hFc := va_free (wc := [(sc, .inr (10, [.int 0, .ref sk, .ref (rS 0), .ref (rS 1)])), (sk, .inl (cI, 40, .inl fk))]) hD hS hA [1, 2] rfl
  refine va_calli (va_runV (As := []) (rest := []) ⟨hx, hb, hml, hown, hgt⟩ (x_isFull l D cI cZ cC cJ sc sk rS fk s.heap.size) (cwV 0 hgt (gV wd_2_228 wd_2_229 wd_2_230 wd_0_13 wd_2_231) rfl rfl rfl (by decide +kernel) ⟨Nat.le_of_ble_eq_true rfl, Nat.le_of_ble_eq_true rfl⟩) ⟨fun a U g mk q => by obtain ⟨q0, q1, qP, qK, qD⟩ := q; exact ⟨q0, q1, qP, va_K.moved (u := U) (U := U.calling g mk a) (Vm.Alike.refl U.vm) qK, qD⟩, va_recv hK hP (ci := 10) (q0 := 1) rfl rfl, fun U hU hW => ⟨rfl, by rw [hU], by rw [hU]; exact hPc, va_K.moved hW.alike hK, hDc.weaken (fun _ _ _ _ => trivial)⟩⟩ rfl rfl hl.1 rfl (lv_room (Nat.le_of_ble_eq_true rfl)) dX11_step_4 ⟨Nat.le_of_ble_eq_true rfl, Nat.le_of_ble_eq_true rfl⟩) hS (fun q _ h => hFc q h) hFc (fun r u t H1 locs ht hvm hw hB hz1 hk1 hS => ?_)
  obtain ⟨hP1, hD1⟩ := hB
  rw [ht] at hP1
  obtain ⟨hP, hD⟩ := va_join (wr := [(x, .inr (11, [.ref dr, .ref rd, .ref jd, .ref ly, .ref dv, .ref pl, .ref jo, .ref sc, .ref ck])), (ly, .inr (4, [.int 0, .ref (rY 0), .ref (rY 1), .ref (rY 2), .ref (rY 3), .ref (rY 4), .ref (rY 5), .ref ho, .ref (rY 6), .ref (rY 7), .ref (rY 8), .ref (rY 9), .ref lru]))]) (w1 := [(sc, .inr (10, [.int 0, .ref sk, .ref (rS 0), .ref (rS 1)])), (sk, .inl (cI, 40, .inl fk))]) hP hD [1, 2] [0, 3] rfl rfl (by decide) (by decide) hk1 hFc hP1 hD1
  generalize H1 = H at hP hS ⊢
  have hP : va_P D vwCl [(x, .inr (11, [.ref dr, .ref rd, .ref jd, .ref ly, .ref dv, .ref pl, .ref jo, .ref sc, .ref ck])), (ly, .inr (4, [.int 0, .ref (rY 0), .ref (rY 1), .ref (rY 2), .ref (rY 3), .ref (rY 4), .ref (rY 5), .ref ho, .ref (rY 6), .ref (rY 7), .ref (rY 8), .ref (rY 9), .ref lru])), (sc, .inr (10, [.int 0, .ref sk, .ref (rS 0), .ref (rS 1)])), (sk, .inl (cI, 40, .inl fk))] H := hP
  have hD : va_D A [(x, .inr (11, [.ref dr, .ref rd, .ref jd, .ref ly, .ref dv, .ref pl, .ref jo, .ref sc, .ref ck])), (ly, .inr (4, [.int 0, .ref (rY 0), .ref (rY 1), .ref (rY 2), .ref (rY 3), .ref (rY 4), .ref (rY 5), .ref ho, .ref (rY 6), .ref (rY 7), .ref (rY 8), .ref (rY 9), .ref lru])), (sc, .inr (10, [.int 0, .ref sk, .ref (rS 0), .ref (rS 1)])), (sk, .inl (cI, 40, .inl fk))] := hD
  obtain rfl : r = 0 := hw
  refine lv_if_ne hx hb dX11_step_7 (tgt := 27) rfl (fun h_7 => absurd (by decide) h_7) (fun _ => ?_)
  refine lv_aload_n hx hb dX11_step_10 rfl (lv_at hl 0 rfl) ?_
  have hPc := hP.sub (ws' := [(x, .inr (11, [.ref dr, .ref rd, .ref jd, .ref ly, .ref dv, .ref pl, .ref jo, .ref sc, .ref ck])), (ly, .inr (4, [.int 0, .ref (rY 0), .ref (rY 1), .ref (rY 2), .ref (rY 3), .ref (rY 4), .ref (rY 5), .ref ho, .ref (rY 6), .ref (rY 7), .ref (rY 8), .ref (rY 9), .ref lru]))]) [0, 1] rfl
  have hDc := hD.sub (ws' := [(x, .inr (11, [.ref dr, .ref rd, .ref jd, .ref ly, .ref dv, .ref pl, .ref jo, .ref sc, .ref ck])), (ly, .inr (4, [.int 0, .ref (rY 0), .ref (rY 1), .ref (rY 2), .ref (rY 3), .ref (rY 4), .ref (rY 5), .ref ho, .ref (rY 6), .ref (rY 7), .ref (rY 8), .ref (rY 9), .ref lru]))]) [0, 1] (by decide) rfl
  have hFc := va_free (wc := [(x, .inr (11, [.ref dr, .ref rd, .ref jd, .ref ly, .ref dv, .ref pl, .ref jo, .ref sc, .ref ck])), (ly, .inr (4, [.int 0, .ref (rY 0), .ref (rY 1), .ref (rY 2), .ref (rY 3), .ref (rY 4), .ref (rY 5), .ref ho, .ref (rY 6), .ref (rY 7), .ref (rY 8), .ref (rY 9), .ref lru]))]) hD hS hA [0, 1] rfl
  refine va_calli (va_runV (As := []) (rest := []) ⟨hx, hb, hml, hown, hgt⟩ (x_hasMap l D cI cZ cC cJ x dr rd jd ly dv pl jo sc ck rY ho lru H.size) (cwV 0 hgt (gV wd_2_81 wd_2_83 sl__ChipMap____ChipMap___hasMap_____Z_____ChipMap___hasMap_____Z__ wd_0_1 wd_2_84) rfl rfl rfl (by decide +kernel) ⟨Nat.le_of_ble_eq_true rfl, Nat.le_of_ble_eq_true rfl⟩) ⟨fun a U g mk q => by obtain ⟨q0, q1, qP, qK, qD⟩ := q; exact ⟨q0, q1, qP, va_K.moved (u := U) (U := U.calling g mk a) (Vm.Alike.refl U.vm) qK, qD⟩, va_recv hK hP (ci := 11) (q0 := 0) rfl rfl, fun U hU hW => ⟨rfl, by rw [hU], by rw [hU]; exact hPc, va_K.moved hW.alike hK, hDc.weaken (fun _ _ _ _ => trivial)⟩⟩ rfl rfl hl.1 rfl (lv_room (Nat.le_of_ble_eq_true rfl)) dX11_step_11 ⟨Nat.le_of_ble_eq_true rfl, Nat.le_of_ble_eq_true rfl⟩) hS (fun q _ h => hFc q h) hFc (fun r u t H1 locs ht hvm hw hB hz1 hk1 hS => ?_)
  obtain ⟨hP1, hD1⟩ := hB
  rw [ht] at hP1
  obtain ⟨hP, hD⟩ := va_join (wr := [(sc, .inr (10, [.int 0, .ref sk, .ref (rS 0), .ref (rS 1)])), (sk, .inl (cI, 40, .inl fk))]) (w1 := [(x, .inr (11, [.ref dr, .ref rd, .ref jd, .ref ly, .ref dv, .ref pl, .ref jo, .ref sc, .ref ck])), (ly, .inr (4, [.int 0, .ref (rY 0), .ref (rY 1), .ref (rY 2), .ref (rY 3), .ref (rY 4), .ref (rY 5), .ref ho, .ref (rY 6), .ref (rY 7), .ref (rY 8), .ref (rY 9), .ref lru]))]) hP hD [0, 1] [2, 3] rfl rfl (by decide) (by decide) hk1 hFc hP1 hD1
  generalize H1 = H at hP hS ⊢
  have hP : va_P D vwCl [(sc, .inr (10, [.int 0, .ref sk, .ref (rS 0), .ref (rS 1)])), (sk, .inl (cI, 40, .inl fk)), (x, .inr (11, [.ref dr, .ref rd, .ref jd, .ref ly, .ref dv, .ref pl, .ref jo, .ref sc, .ref ck])), (ly, .inr (4, [.int 0, .ref (rY 0), .ref (rY 1), .ref (rY 2), .ref (rY 3), .ref (rY 4), .ref (rY 5), .ref ho, .ref (rY 6), .ref (rY 7), .ref (rY 8), .ref (rY 9), .ref lru]))] H := hP
  have hD : va_D A [(sc, .inr (10, [.int 0, .ref sk, .ref (rS 0), .ref (rS 1)])), (sk, .inl (cI, 40, .inl fk)), (x, .inr (11, [.ref dr, .ref rd, .ref jd, .ref ly, .ref dv, .ref pl, .ref jo, .ref sc, .ref ck])), (ly, .inr (4, [.int 0, .ref (rY 0), .ref (rY 1), .ref (rY 2), .ref (rY 3), .ref (rY 4), .ref (rY 5), .ref ho, .ref (rY 6), .ref (rY 7), .ref (rY 8), .ref (rY 9), .ref lru]))] := hD
  obtain rfl : r = 0 := hw
  refine lv_if_eq hx hb dX11_step_14 (tgt := 27) rfl (fun _ => ?_) (fun h_14 => absurd (by decide) h_14)
  refine lv_iconst (v := (-1)) hx hb dX11_step_27 (by decide) ?_
  refine W.widen (k := 0) (n := 0) (Nat.le_of_ble_eq_true rfl) (Nat.le_of_ble_eq_true rfl) ?_
  exact W.iret (v := (-1)) hx hb hr (fun t ht hW => ⟨⟨(-1), (), rfl, rfl, trivial⟩, hS.F ht⟩) hS.2.2 dX11_step_28
set_option maxHeartbeats 4000000 in
set_option maxRecDepth 100000 in
theorem x_registerAt (l : Launch) (D : va_G) (cI cZ cC cJ : ClassId) (dv : Nat) (ly : Nat) (dm : Nat) (lg : Nat) (rV : Nat → Nat) (rY : Nat → Nat) (ho : Nat) (lru : Nat) (f : Int32) (sz : Nat) : Met l yX1_registerAt wsX1_registerAt ({ frames := 0, cells := 0, slots := 0, locals := 0 }) (va_Pc [.ref dv, .int f] (fun U => U.heap.size = sz ∧ va_P D vwCl [(dv, .inr (1, [.ref ly, .ref dm, .ref lg, .int 0, .ref (rV 0), .ref (rV 1), .ref (rV 2)])), (ly, .inr (4, [.int 0, .ref (rY 0), .ref (rY 1), .ref (rY 2), .ref (rY 3), .ref (rY 4), .ref (rY 5), .ref ho, .ref (rY 6), .ref (rY 7), .ref (rY 8), .ref (rY 9), .ref lru]))] U.heap ∧ va_K D vwCl [(cI, .int), (cZ, .boolean), (cC, .char), (cJ, .long)] U ∧ va_D (fun _ => True) [(dv, .inr (1, [.ref ly, .ref dm, .ref lg, .int 0, .ref (rV 0), .ref (rV 1), .ref (rV 2)])), (ly, .inr (4, [.int 0, .ref (rY 0), .ref (rY 1), .ref (rY 2), .ref (rY 3), .ref (rY 4), .ref (rY 5), .ref ho, .ref (rY 6), .ref (rY 7), .ref (rY 8), .ref (rY 9), .ref lru]))])) (va_Qi (fun (r : Int32) (_ : Unit) => r = (-1)) (fun _ _ => True) (va_A [(dv, .inr (1, [.ref ly, .ref dm, .ref lg, .int 0, .ref (rV 0), .ref (rV 1), .ref (rV 2)])), (ly, .inr (4, [.int 0, .ref (rY 0), .ref (rY 1), .ref (rY 2), .ref (rY 3), .ref (rY 4), .ref (rY 5), .ref ho, .ref (rY 6), .ref (rY 7), .ref (rY 8), .ref (rY 9), .ref lru]))] sz)) 0 0 (va_A [(dv, .inr (1, [.ref ly, .ref dm, .ref lg, .int 0, .ref (rV 0), .ref (rV 1), .ref (rV 2)])), (ly, .inr (4, [.int 0, .ref (rY 0), .ref (rY 1), .ref (rY 2), .ref (rY 3), .ref (rY 4), .ref (rY 5), .ref ho, .ref (rY 6), .ref (rY 7), .ref (rY 8), .ref (rY 9), .ref lru]))] sz) := by
  refine Met.ofW (cc := cX1_registerAt) (maxL := 3) (ret := (some .int)) (by decide) rfl ?_
  intro p e s m args below meth c s₁ B hml hv
  obtain ⟨rfl, hsz, hP, hK, hD0⟩ := hv
  have hx := B.exec
  have hb := B.bytes
  have hr := B.returns
  have hgt := fun w (h : w ∈ GT) => atoms_spec (ws := wsX1_registerAt) B.pre w (List.mem_cons_of_mem _ h)
  have hown : s.vm.findClass RX1 = some m.cls := findClass_of_methodNamed B.named
  have hlocks := B.notSynchronized
  subst hsz
  have hD := hD0.self (sz := s.heap.size)
  generalize hAe : va_A [(dv, .inr (1, [.ref ly, .ref dm, .ref lg, .int 0, .ref (rV 0), .ref (rV 1), .ref (rV 2)])), (ly, .inr (4, [.int 0, .ref (rY 0), .ref (rY 1), .ref (rY 2), .ref (rY 3), .ref (rY 4), .ref (rY 5), .ref ho, .ref (rY 6), .ref (rY 7), .ref (rY 8), .ref (rY 9), .ref lru]))] s.heap.size = A at hD ⊢
  have hA : ∀ q : Nat, s.heap.size ≤ q → A q := fun q h => by rw [← hAe]; exact Or.inr h
  have hS : va_S A s.heap s.heap [] := va_S.rf
  have hP : va_P D vwCl [(dv, .inr (1, [.ref ly, .ref dm, .ref lg, .int 0, .ref (rV 0), .ref (rV 1), .ref (rV 2)])), (ly, .inr (4, [.int 0, .ref (rY 0), .ref (rY 1), .ref (rY 2), .ref (rY 3), .ref (rY 4), .ref (rY 5), .ref ho, .ref (rY 6), .ref (rY 7), .ref (rY 8), .ref (rY 9), .ref lru]))] s.heap := hP
  have hl := lv_entry ([.ref dv, .int f]) (n := 3) (Nat.le_of_ble_eq_true rfl)
  rw [lg_entry_eq]
  generalize (lg_sl ([.ref dv, .int f]) ++ List.replicate (3 - (lg_sl ([.ref dv, .int f])).length) Slot.unset).toArray = ls at hl ⊢
  have hl : lv_has ls 3 [(0, .ref dv), (1, .int f)] := hl
  refine lv_iconst (v := 0) hx hb dX1_registerAt_0 (by decide) ?_
  refine lv_istore_n hx hb dX1_registerAt_1 rfl hl (Nat.le_of_ble_eq_true rfl) (lv' := [(2, .int 0), (0, .ref dv), (1, .int f)]) rfl (fun ls hl => ?_)
  refine lv_iload_n hx hb dX1_registerAt_2 rfl (lv_at hl 0 rfl) ?_
  refine lv_aload_n hx hb dX1_registerAt_3 rfl (lv_at hl 1 rfl) ?_
  refine va_get (D := D) (ci := 1) (v := .ref ly) (C := RX1) (T := TX1) (N := 7) hx hb hgt iwX1 hown hK hP 0 rfl rfl 0 (Nat.le_of_ble_eq_true rfl) (hgt _ wd_1_126) (fun _ h9 => h9) rfl dX1_registerAt_4 ?_
  refine va_get (D := D) (ci := 4) (v := .int 0) (C := RX4) (T := TX4) (N := 13) hx hb hgt iwX4 hown hK hP 1 rfl rfl 0 (Nat.le_of_ble_eq_true rfl) (hgt _ wd_1_5) (fun _ h9 => h9) rfl dX1_registerAt_7 ?_
  refine lv_icmp_ge hx hb dX1_registerAt_10 (tgt := 45) rfl (fun _ => ?_) (fun h_10 => absurd (by decide) h_10)
  refine lv_iconst (v := (-1)) hx hb dX1_registerAt_45 (by decide) ?_
  refine W.widen (k := 0) (n := 0) (Nat.le_of_ble_eq_true rfl) (Nat.le_of_ble_eq_true rfl) ?_
  exact W.iret (v := (-1)) hx hb hr (fun t ht hW => ⟨⟨(-1), (), rfl, rfl, trivial⟩, hS.F ht⟩) hS.2.2 dX1_registerAt_46
set_option maxHeartbeats 4000000 in
set_option maxRecDepth 100000 in
theorem x_busWrite (l : Launch) (D : va_G) (cI cZ cC cJ : ClassId) (x : Nat) (dr : Nat) (rd : Nat) (jd : Nat) (ly : Nat) (dv : Nat) (pl : Nat) (jo : Nat) (sc : Nat) (ck : Nat) (dm : Nat) (lg : Nat) (rV : Nat → Nat) (rY : Nat → Nat) (ho : Nat) (lru : Nat) (f : Int32) (v : Int32) (sz : Nat) : Met l yX11_busWrite wsX11_busWrite ({ frames := 1, cells := 0, slots := 0, locals := 22 }) (va_Pc [.ref x, .int f, .int v] (fun U => U.heap.size = sz ∧ va_P D vwCl [(x, .inr (11, [.ref dr, .ref rd, .ref jd, .ref ly, .ref dv, .ref pl, .ref jo, .ref sc, .ref ck])), (dv, .inr (1, [.ref ly, .ref dm, .ref lg, .int 0, .ref (rV 0), .ref (rV 1), .ref (rV 2)])), (ly, .inr (4, [.int 0, .ref (rY 0), .ref (rY 1), .ref (rY 2), .ref (rY 3), .ref (rY 4), .ref (rY 5), .ref ho, .ref (rY 6), .ref (rY 7), .ref (rY 8), .ref (rY 9), .ref lru]))] U.heap ∧ va_K D vwCl [(cI, .int), (cZ, .boolean), (cC, .char), (cJ, .long)] U ∧ va_D (fun _ => True) [(x, .inr (11, [.ref dr, .ref rd, .ref jd, .ref ly, .ref dv, .ref pl, .ref jo, .ref sc, .ref ck])), (dv, .inr (1, [.ref ly, .ref dm, .ref lg, .int 0, .ref (rV 0), .ref (rV 1), .ref (rV 2)])), (ly, .inr (4, [.int 0, .ref (rY 0), .ref (rY 1), .ref (rY 2), .ref (rY 3), .ref (rY 4), .ref (rY 5), .ref ho, .ref (rY 6), .ref (rY 7), .ref (rY 8), .ref (rY 9), .ref lru]))])) (va_Qi (fun (r : Int32) (_ : Unit) => r = (-1)) (fun _ _ => True) (va_A [(x, .inr (11, [.ref dr, .ref rd, .ref jd, .ref ly, .ref dv, .ref pl, .ref jo, .ref sc, .ref ck])), (dv, .inr (1, [.ref ly, .ref dm, .ref lg, .int 0, .ref (rV 0), .ref (rV 1), .ref (rV 2)])), (ly, .inr (4, [.int 0, .ref (rY 0), .ref (rY 1), .ref (rY 2), .ref (rY 3), .ref (rY 4), .ref (rY 5), .ref ho, .ref (rY 6), .ref (rY 7), .ref (rY 8), .ref (rY 9), .ref lru]))] sz)) 0 0 (va_A [(x, .inr (11, [.ref dr, .ref rd, .ref jd, .ref ly, .ref dv, .ref pl, .ref jo, .ref sc, .ref ck])), (dv, .inr (1, [.ref ly, .ref dm, .ref lg, .int 0, .ref (rV 0), .ref (rV 1), .ref (rV 2)])), (ly, .inr (4, [.int 0, .ref (rY 0), .ref (rY 1), .ref (rY 2), .ref (rY 3), .ref (rY 4), .ref (rY 5), .ref ho, .ref (rY 6), .ref (rY 7), .ref (rY 8), .ref (rY 9), .ref lru]))] sz) := by
  refine Met.ofW (cc := cX11_busWrite) (maxL := 5) (ret := (some .int)) (by decide) rfl ?_
  intro p e s m args below meth c s₁ B hml hv
  obtain ⟨rfl, hsz, hP, hK, hD0⟩ := hv
  have hx := B.exec
  have hb := B.bytes
  have hr := B.returns
  have hgt := fun w (h : w ∈ GT) => atoms_spec (ws := wsX11_busWrite) B.pre w (List.mem_cons_of_mem _ h)
  have hown : s.vm.findClass RX11 = some m.cls := findClass_of_methodNamed B.named
  have hlocks := B.notSynchronized
  subst hsz
  have hD := hD0.self (sz := s.heap.size)
  generalize hAe : va_A [(x, .inr (11, [.ref dr, .ref rd, .ref jd, .ref ly, .ref dv, .ref pl, .ref jo, .ref sc, .ref ck])), (dv, .inr (1, [.ref ly, .ref dm, .ref lg, .int 0, .ref (rV 0), .ref (rV 1), .ref (rV 2)])), (ly, .inr (4, [.int 0, .ref (rY 0), .ref (rY 1), .ref (rY 2), .ref (rY 3), .ref (rY 4), .ref (rY 5), .ref ho, .ref (rY 6), .ref (rY 7), .ref (rY 8), .ref (rY 9), .ref lru]))] s.heap.size = A at hD ⊢
  have hA : ∀ q : Nat, s.heap.size ≤ q → A q := fun q h => by rw [← hAe]; exact Or.inr h
  have hS : va_S A s.heap s.heap [] := va_S.rf
  have hP : va_P D vwCl [(x, .inr (11, [.ref dr, .ref rd, .ref jd, .ref ly, .ref dv, .ref pl, .ref jo, .ref sc, .ref ck])), (dv, .inr (1, [.ref ly, .ref dm, .ref lg, .int 0, .ref (rV 0), .ref (rV 1), .ref (rV 2)])), (ly, .inr (4, [.int 0, .ref (rY 0), .ref (rY 1), .ref (rY 2), .ref (rY 3), .ref (rY 4), .ref (rY 5), .ref ho, .ref (rY 6), .ref (rY 7), .ref (rY 8), .ref (rY 9), .ref lru]))] s.heap := hP
  have hl := lv_entry ([.ref x, .int f, .int v]) (n := 5) (Nat.le_of_ble_eq_true rfl)
  rw [lg_entry_eq]
  generalize (lg_sl ([.ref x, .int f, .int v]) ++ List.replicate (5 - (lg_sl ([.ref x, .int f, .int v])).length) Slot.unset).toArray = ls at hl ⊢
  have hl : lv_has ls 5 [(0, .ref x), (1, .int f), (2, .int v)] := hl
  refine lv_aload_n hx hb dX11_busWrite_0 rfl (lv_at hl 0 rfl) ?_
  refine va_get (D := D) (ci := 11) (v := .ref dv) (C := RX11) (T := TX11) (N := 9) hx hb hgt iwX11 hown hK hP 0 rfl rfl 4 (Nat.le_of_ble_eq_true rfl) (hgt _ wd_2_21) (fun _ h9 => h9) rfl dX11_busWrite_1 ?_
  refine lv_iload_n hx hb dX11_busWrite_4 rfl (lv_at hl 1 rfl) ?_
  have hPc := hP.sub (ws' := [(dv, .inr (1, [.ref ly, .ref dm, .ref lg, .int 0, .ref (rV 0), .ref (rV 1), .ref (rV 2)])), (ly, .inr (4, [.int 0, .ref (rY 0), .ref (rY 1), .ref (rY 2), .ref (rY 3), .ref (rY 4), .ref (rY 5), .ref ho, .ref (rY 6), .ref (rY 7), .ref (rY 8), .ref (rY 9), .ref lru]))]) [1, 2] rfl
  have hDc := hD.sub (ws' := [(dv, .inr (1, [.ref ly, .ref dm, .ref lg, .int 0, .ref (rV 0), .ref (rV 1), .ref (rV 2)])), (ly, .inr (4, [.int 0, .ref (rY 0), .ref (rY 1), .ref (rY 2), .ref (rY 3), .ref (rY 4), .ref (rY 5), .ref ho, .ref (rY 6), .ref (rY 7), .ref (rY 8), .ref (rY 9), .ref lru]))]) [1, 2] (by decide) rfl
  have hFc := va_free (wc := [(dv, .inr (1, [.ref ly, .ref dm, .ref lg, .int 0, .ref (rV 0), .ref (rV 1), .ref (rV 2)])), (ly, .inr (4, [.int 0, .ref (rY 0), .ref (rY 1), .ref (rY 2), .ref (rY 3), .ref (rY 4), .ref (rY 5), .ref ho, .ref (rY 6), .ref (rY 7), .ref (rY 8), .ref (rY 9), .ref lru]))]) hD hS hA [1, 2] rfl
  refine va_calli (va_runV (As := [.int f]) (rest := []) ⟨hx, hb, hml, hown, hgt⟩ (x_registerAt l D cI cZ cC cJ dv ly dm lg rV rY ho lru f s.heap.size) (cwV 1 hgt (gV wd_2_102 wd_2_103 wd_2_104 wd_0_9 wd_2_105) rfl rfl rfl (by decide +kernel) ⟨Nat.le_of_ble_eq_true rfl, Nat.le_of_ble_eq_true rfl⟩) ⟨fun a U g mk q => by obtain ⟨q0, q1, qP, qK, qD⟩ := q; exact ⟨q0, q1, qP, va_K.moved (u := U) (U := U.calling g mk a) (Vm.Alike.refl U.vm) qK, qD⟩, va_recv hK hP (ci := 1) (q0 := 1) rfl rfl, fun U hU hW => ⟨rfl, by rw [hU], by rw [hU]; exact hPc, va_K.moved hW.alike hK, hDc.weaken (fun _ _ _ _ => trivial)⟩⟩ rfl rfl hl.1 rfl (lv_room (Nat.le_of_ble_eq_true rfl)) dX11_busWrite_5 ⟨Nat.le_of_ble_eq_true rfl, Nat.le_of_ble_eq_true rfl⟩) hS (fun q _ h => hFc q h) hFc (fun r u t H1 locs ht hvm hw hB hz1 hk1 hS => ?_)
  have hP1 : va_P D vwCl [] H1 := fun k q h => by simp at h
  have hD1 : va_D (va_A [(dv, .inr (1, [.ref ly, .ref dm, .ref lg, .int 0, .ref (rV 0), .ref (rV 1), .ref (rV 2)])), (ly, .inr (4, [.int 0, .ref (rY 0), .ref (rY 1), .ref (rY 2), .ref (rY 3), .ref (rY 4), .ref (rY 5), .ref ho, .ref (rY 6), .ref (rY 7), .ref (rY 8), .ref (rY 9), .ref lru]))] s.heap.size) [] := ⟨fun i j p q h => by simp at h, fun k q h => by simp at h⟩
  obtain ⟨hP, hD⟩ := va_join (wr := [(x, .inr (11, [.ref dr, .ref rd, .ref jd, .ref ly, .ref dv, .ref pl, .ref jo, .ref sc, .ref ck]))]) (w1 := []) hP hD [1, 2] [0] rfl rfl (by decide) (by decide) hk1 hFc hP1 hD1
  generalize H1 = H at hP hS ⊢
  have hP : va_P D vwCl [(x, .inr (11, [.ref dr, .ref rd, .ref jd, .ref ly, .ref dv, .ref pl, .ref jo, .ref sc, .ref ck]))] H := hP
  have hD : va_D A [(x, .inr (11, [.ref dr, .ref rd, .ref jd, .ref ly, .ref dv, .ref pl, .ref jo, .ref sc, .ref ck]))] := hD
  obtain rfl : r = (-1) := hw
  refine lv_istore_n hx hb dX11_busWrite_8 rfl hl (Nat.le_of_ble_eq_true rfl) (lv' := [(3, .int ((-1))), (0, .ref x), (1, .int f), (2, .int v)]) rfl (fun ls hl => ?_)
  refine lv_iload_n hx hb dX11_busWrite_9 rfl (lv_at hl 0 rfl) ?_
  refine lv_iconst (v := (-1)) hx hb dX11_busWrite_10 (by decide) ?_
  refine lv_icmp_ne hx hb dX11_busWrite_11 (tgt := 16) rfl (fun h_11 => absurd (by decide) h_11) (fun _ => ?_)
  refine lv_iconst (v := (-1)) hx hb dX11_busWrite_14 (by decide) ?_
  refine W.widen (k := 0) (n := 0) (Nat.le_of_ble_eq_true rfl) (Nat.le_of_ble_eq_true rfl) ?_
  exact W.iret (v := (-1)) hx hb hr (fun t ht hW => ⟨⟨(-1), (), rfl, rfl, trivial⟩, hS.F ht⟩) hS.2.2 dX11_busWrite_15
set_option maxHeartbeats 4000000 in
set_option maxRecDepth 100000 in
theorem x_busRead (l : Launch) (D : va_G) (cI cZ cC cJ : ClassId) (x : Nat) (dr : Nat) (rd : Nat) (jd : Nat) (ly : Nat) (dv : Nat) (pl : Nat) (jo : Nat) (sc : Nat) (ck : Nat) (dm : Nat) (lg : Nat) (rV : Nat → Nat) (rY : Nat → Nat) (ho : Nat) (lru : Nat) (f : Int32) (sz : Nat) : Met l yX11_busRead wsX11_busRead ({ frames := 1, cells := 0, slots := 0, locals := 22 }) (va_Pc [.ref x, .int f] (fun U => U.heap.size = sz ∧ va_P D vwCl [(x, .inr (11, [.ref dr, .ref rd, .ref jd, .ref ly, .ref dv, .ref pl, .ref jo, .ref sc, .ref ck])), (dv, .inr (1, [.ref ly, .ref dm, .ref lg, .int 0, .ref (rV 0), .ref (rV 1), .ref (rV 2)])), (ly, .inr (4, [.int 0, .ref (rY 0), .ref (rY 1), .ref (rY 2), .ref (rY 3), .ref (rY 4), .ref (rY 5), .ref ho, .ref (rY 6), .ref (rY 7), .ref (rY 8), .ref (rY 9), .ref lru]))] U.heap ∧ va_K D vwCl [(cI, .int), (cZ, .boolean), (cC, .char), (cJ, .long)] U ∧ va_D (fun _ => True) [(x, .inr (11, [.ref dr, .ref rd, .ref jd, .ref ly, .ref dv, .ref pl, .ref jo, .ref sc, .ref ck])), (dv, .inr (1, [.ref ly, .ref dm, .ref lg, .int 0, .ref (rV 0), .ref (rV 1), .ref (rV 2)])), (ly, .inr (4, [.int 0, .ref (rY 0), .ref (rY 1), .ref (rY 2), .ref (rY 3), .ref (rY 4), .ref (rY 5), .ref ho, .ref (rY 6), .ref (rY 7), .ref (rY 8), .ref (rY 9), .ref lru]))])) (va_Qi (fun (r : Int32) (_ : Unit) => r = (-1)) (fun _ _ => True) (va_A [(x, .inr (11, [.ref dr, .ref rd, .ref jd, .ref ly, .ref dv, .ref pl, .ref jo, .ref sc, .ref ck])), (dv, .inr (1, [.ref ly, .ref dm, .ref lg, .int 0, .ref (rV 0), .ref (rV 1), .ref (rV 2)])), (ly, .inr (4, [.int 0, .ref (rY 0), .ref (rY 1), .ref (rY 2), .ref (rY 3), .ref (rY 4), .ref (rY 5), .ref ho, .ref (rY 6), .ref (rY 7), .ref (rY 8), .ref (rY 9), .ref lru]))] sz)) 0 0 (va_A [(x, .inr (11, [.ref dr, .ref rd, .ref jd, .ref ly, .ref dv, .ref pl, .ref jo, .ref sc, .ref ck])), (dv, .inr (1, [.ref ly, .ref dm, .ref lg, .int 0, .ref (rV 0), .ref (rV 1), .ref (rV 2)])), (ly, .inr (4, [.int 0, .ref (rY 0), .ref (rY 1), .ref (rY 2), .ref (rY 3), .ref (rY 4), .ref (rY 5), .ref ho, .ref (rY 6), .ref (rY 7), .ref (rY 8), .ref (rY 9), .ref lru]))] sz) := by
  refine Met.ofW (cc := cX11_busRead) (maxL := 3) (ret := (some .int)) (by decide) rfl ?_
  intro p e s m args below meth c s₁ B hml hv
  obtain ⟨rfl, hsz, hP, hK, hD0⟩ := hv
  have hx := B.exec
  have hb := B.bytes
  have hr := B.returns
  have hgt := fun w (h : w ∈ GT) => atoms_spec (ws := wsX11_busRead) B.pre w (List.mem_cons_of_mem _ h)
  have hown : s.vm.findClass RX11 = some m.cls := findClass_of_methodNamed B.named
  have hlocks := B.notSynchronized
  subst hsz
  have hD := hD0.self (sz := s.heap.size)
  generalize hAe : va_A [(x, .inr (11, [.ref dr, .ref rd, .ref jd, .ref ly, .ref dv, .ref pl, .ref jo, .ref sc, .ref ck])), (dv, .inr (1, [.ref ly, .ref dm, .ref lg, .int 0, .ref (rV 0), .ref (rV 1), .ref (rV 2)])), (ly, .inr (4, [.int 0, .ref (rY 0), .ref (rY 1), .ref (rY 2), .ref (rY 3), .ref (rY 4), .ref (rY 5), .ref ho, .ref (rY 6), .ref (rY 7), .ref (rY 8), .ref (rY 9), .ref lru]))] s.heap.size = A at hD ⊢
  have hA : ∀ q : Nat, s.heap.size ≤ q → A q := fun q h => by rw [← hAe]; exact Or.inr h
  have hS : va_S A s.heap s.heap [] := va_S.rf
  have hP : va_P D vwCl [(x, .inr (11, [.ref dr, .ref rd, .ref jd, .ref ly, .ref dv, .ref pl, .ref jo, .ref sc, .ref ck])), (dv, .inr (1, [.ref ly, .ref dm, .ref lg, .int 0, .ref (rV 0), .ref (rV 1), .ref (rV 2)])), (ly, .inr (4, [.int 0, .ref (rY 0), .ref (rY 1), .ref (rY 2), .ref (rY 3), .ref (rY 4), .ref (rY 5), .ref ho, .ref (rY 6), .ref (rY 7), .ref (rY 8), .ref (rY 9), .ref lru]))] s.heap := hP
  have hl := lv_entry ([.ref x, .int f]) (n := 3) (Nat.le_of_ble_eq_true rfl)
  rw [lg_entry_eq]
  generalize (lg_sl ([.ref x, .int f]) ++ List.replicate (3 - (lg_sl ([.ref x, .int f])).length) Slot.unset).toArray = ls at hl ⊢
  have hl : lv_has ls 3 [(0, .ref x), (1, .int f)] := hl
  refine lv_aload_n hx hb dX11_busRead_0 rfl (lv_at hl 0 rfl) ?_
  refine va_get (D := D) (ci := 11) (v := .ref dv) (C := RX11) (T := TX11) (N := 9) hx hb hgt iwX11 hown hK hP 0 rfl rfl 4 (Nat.le_of_ble_eq_true rfl) (hgt _ wd_2_21) (fun _ h9 => h9) rfl dX11_busRead_1 ?_
  refine lv_iload_n hx hb dX11_busRead_4 rfl (lv_at hl 1 rfl) ?_
  have hPc := hP.sub (ws' := [(dv, .inr (1, [.ref ly, .ref dm, .ref lg, .int 0, .ref (rV 0), .ref (rV 1), .ref (rV 2)])), (ly, .inr (4, [.int 0, .ref (rY 0), .ref (rY 1), .ref (rY 2), .ref (rY 3), .ref (rY 4), .ref (rY 5), .ref ho, .ref (rY 6), .ref (rY 7), .ref (rY 8), .ref (rY 9), .ref lru]))]) [1, 2] rfl
  have hDc := hD.sub (ws' := [(dv, .inr (1, [.ref ly, .ref dm, .ref lg, .int 0, .ref (rV 0), .ref (rV 1), .ref (rV 2)])), (ly, .inr (4, [.int 0, .ref (rY 0), .ref (rY 1), .ref (rY 2), .ref (rY 3), .ref (rY 4), .ref (rY 5), .ref ho, .ref (rY 6), .ref (rY 7), .ref (rY 8), .ref (rY 9), .ref lru]))]) [1, 2] (by decide) rfl
  have hFc := va_free (wc := [(dv, .inr (1, [.ref ly, .ref dm, .ref lg, .int 0, .ref (rV 0), .ref (rV 1), .ref (rV 2)])), (ly, .inr (4, [.int 0, .ref (rY 0), .ref (rY 1), .ref (rY 2), .ref (rY 3), .ref (rY 4), .ref (rY 5), .ref ho, .ref (rY 6), .ref (rY 7), .ref (rY 8), .ref (rY 9), .ref lru]))]) hD hS hA [1, 2] rfl
  refine va_calli (va_runV (As := [.int f]) (rest := []) ⟨hx, hb, hml, hown, hgt⟩ (x_registerAt l D cI cZ cC cJ dv ly dm lg rV rY ho lru f s.heap.size) (cwV 1 hgt (gV wd_2_102 wd_2_103 wd_2_104 wd_0_9 wd_2_105) rfl rfl rfl (by decide +kernel) ⟨Nat.le_of_ble_eq_true rfl, Nat.le_of_ble_eq_true rfl⟩) ⟨fun a U g mk q => by obtain ⟨q0, q1, qP, qK, qD⟩ := q; exact ⟨q0, q1, qP, va_K.moved (u := U) (U := U.calling g mk a) (Vm.Alike.refl U.vm) qK, qD⟩, va_recv hK hP (ci := 1) (q0 := 1) rfl rfl, fun U hU hW => ⟨rfl, by rw [hU], by rw [hU]; exact hPc, va_K.moved hW.alike hK, hDc.weaken (fun _ _ _ _ => trivial)⟩⟩ rfl rfl hl.1 rfl (lv_room (Nat.le_of_ble_eq_true rfl)) dX11_busRead_5 ⟨Nat.le_of_ble_eq_true rfl, Nat.le_of_ble_eq_true rfl⟩) hS (fun q _ h => hFc q h) hFc (fun r u t H1 locs ht hvm hw hB hz1 hk1 hS => ?_)
  have hP1 : va_P D vwCl [] H1 := fun k q h => by simp at h
  have hD1 : va_D (va_A [(dv, .inr (1, [.ref ly, .ref dm, .ref lg, .int 0, .ref (rV 0), .ref (rV 1), .ref (rV 2)])), (ly, .inr (4, [.int 0, .ref (rY 0), .ref (rY 1), .ref (rY 2), .ref (rY 3), .ref (rY 4), .ref (rY 5), .ref ho, .ref (rY 6), .ref (rY 7), .ref (rY 8), .ref (rY 9), .ref lru]))] s.heap.size) [] := ⟨fun i j p q h => by simp at h, fun k q h => by simp at h⟩
  obtain ⟨hP, hD⟩ := va_join (wr := [(x, .inr (11, [.ref dr, .ref rd, .ref jd, .ref ly, .ref dv, .ref pl, .ref jo, .ref sc, .ref ck]))]) (w1 := []) hP hD [1, 2] [0] rfl rfl (by decide) (by decide) hk1 hFc hP1 hD1
  generalize H1 = H at hP hS ⊢
  have hP : va_P D vwCl [(x, .inr (11, [.ref dr, .ref rd, .ref jd, .ref ly, .ref dv, .ref pl, .ref jo, .ref sc, .ref ck]))] H := hP
  have hD : va_D A [(x, .inr (11, [.ref dr, .ref rd, .ref jd, .ref ly, .ref dv, .ref pl, .ref jo, .ref sc, .ref ck]))] := hD
  obtain rfl : r = (-1) := hw
  refine lv_istore_n hx hb dX11_busRead_8 rfl hl (Nat.le_of_ble_eq_true rfl) (lv' := [(2, .int ((-1))), (0, .ref x), (1, .int f)]) rfl (fun ls hl => ?_)
  refine lv_iload_n hx hb dX11_busRead_9 rfl (lv_at hl 0 rfl) ?_
  refine lv_iconst (v := (-1)) hx hb dX11_busRead_10 (by decide) ?_
  refine lv_icmp_ne hx hb dX11_busRead_11 (tgt := 18) rfl (fun h_11 => absurd (by decide) h_11) (fun _ => ?_)
  refine lv_iconst (v := (-1)) hx hb dX11_busRead_14 (by decide) ?_
  refine lv_goto hx hb dX11_busRead_15 (tgt := 26) rfl ?_
  refine W.widen (k := 0) (n := 0) (Nat.le_of_ble_eq_true rfl) (Nat.le_of_ble_eq_true rfl) ?_
  exact W.iret (v := (-1)) hx hb hr (fun t ht hW => ⟨⟨(-1), (), rfl, rfl, trivial⟩, hS.F ht⟩) hS.2.2 dX11_busRead_26
set_option maxHeartbeats 4000000 in
set_option maxRecDepth 100000 in
theorem x_rowOf (l : Launch) (D : va_G) (cI cZ cC cJ : ClassId) (lg : Nat) (rG : Nat → Nat) (f : Int32) (sz : Nat) : Met l yX5_rowOf wsX5_rowOf ({ frames := 0, cells := 0, slots := 0, locals := 0 }) (va_Pc [.ref lg, .int f] (fun U => U.heap.size = sz ∧ va_P D vwCl [(lg, .inr (5, [.int 0, .ref (rG 0), .ref (rG 1), .ref (rG 2)]))] U.heap ∧ va_K D vwCl [(cI, .int), (cZ, .boolean), (cC, .char), (cJ, .long)] U ∧ va_D (fun _ => True) [(lg, .inr (5, [.int 0, .ref (rG 0), .ref (rG 1), .ref (rG 2)]))])) (va_Qi (fun (r : Int32) (_ : Unit) => r = (-1)) (fun _ t => va_P D vwCl [(lg, .inr (5, [.int 0, .ref (rG 0), .ref (rG 1), .ref (rG 2)]))] t.heap ∧ va_D (va_A [(lg, .inr (5, [.int 0, .ref (rG 0), .ref (rG 1), .ref (rG 2)]))] sz) [(lg, .inr (5, [.int 0, .ref (rG 0), .ref (rG 1), .ref (rG 2)]))]) (va_A [(lg, .inr (5, [.int 0, .ref (rG 0), .ref (rG 1), .ref (rG 2)]))] sz)) 0 0 (va_A [(lg, .inr (5, [.int 0, .ref (rG 0), .ref (rG 1), .ref (rG 2)]))] sz) := by
  refine Met.ofW (cc := cX5_rowOf) (maxL := 2) (ret := (some .int)) (by decide) rfl ?_
  intro p e s m args below meth c s₁ B hml hv
  obtain ⟨rfl, hsz, hP, hK, hD0⟩ := hv
  have hx := B.exec
  have hb := B.bytes
  have hr := B.returns
  have hgt := fun w (h : w ∈ GT) => atoms_spec (ws := wsX5_rowOf) B.pre w (List.mem_cons_of_mem _ h)
  have hown : s.vm.findClass RX5 = some m.cls := findClass_of_methodNamed B.named
  have hlocks := B.notSynchronized
  subst hsz
  have hD := hD0.self (sz := s.heap.size)
  generalize hAe : va_A [(lg, .inr (5, [.int 0, .ref (rG 0), .ref (rG 1), .ref (rG 2)]))] s.heap.size = A at hD ⊢
  have hA : ∀ q : Nat, s.heap.size ≤ q → A q := fun q h => by rw [← hAe]; exact Or.inr h
  have hS : va_S A s.heap s.heap [] := va_S.rf
  have hP : va_P D vwCl [(lg, .inr (5, [.int 0, .ref (rG 0), .ref (rG 1), .ref (rG 2)]))] s.heap := hP
  have hl := lv_entry ([.ref lg, .int f]) (n := 2) (Nat.le_of_ble_eq_true rfl)
  rw [lg_entry_eq]
  generalize (lg_sl ([.ref lg, .int f]) ++ List.replicate (2 - (lg_sl ([.ref lg, .int f])).length) Slot.unset).toArray = ls at hl ⊢
  have hl : lv_has ls 2 [(0, .ref lg), (1, .int f)] := hl
  refine lv_iload_n hx hb dX5_rowOf_0 rfl (lv_at hl 1 rfl) ?_
  refine lv_if_lt hx hb dX5_rowOf_1 (tgt := 18) rfl (fun h_1 => ?_) (fun h_1 => ?_)
  · skip
    refine lv_iconst (v := (-1)) hx hb dX5_rowOf_18 (by decide) ?_
    have hP9 := hP.sub (ws' := [(lg, .inr (5, [.int 0, .ref (rG 0), .ref (rG 1), .ref (rG 2)]))]) [0] rfl
    have hD9 := hD.sub (ws' := [(lg, .inr (5, [.int 0, .ref (rG 0), .ref (rG 1), .ref (rG 2)]))]) [0] (by decide) rfl
    refine W.widen (k := 0) (n := 0) (Nat.le_of_ble_eq_true rfl) (Nat.le_of_ble_eq_true rfl) ?_
    exact W.iret (v := (-1)) hx hb hr (fun t ht hW => ⟨⟨(-1), (), rfl, rfl, by rw [ht]; exact hP9, hD9⟩, hS.F ht⟩) hS.2.2 dX5_rowOf_19
  · skip
    refine lv_iload_n hx hb dX5_rowOf_4 rfl (lv_at hl 1 rfl) ?_
    refine lv_bipush (v := 64) hx hb dX5_rowOf_5 (by decide) ?_
    refine lv_icmp_ge hx hb dX5_rowOf_7 (tgt := 18) rfl (fun h_7 => ?_) (fun h_7 => ?_)
    · skip
      refine lv_iconst (v := (-1)) hx hb dX5_rowOf_18 (by decide) ?_
      have hP9 := hP.sub (ws' := [(lg, .inr (5, [.int 0, .ref (rG 0), .ref (rG 1), .ref (rG 2)]))]) [0] rfl
      have hD9 := hD.sub (ws' := [(lg, .inr (5, [.int 0, .ref (rG 0), .ref (rG 1), .ref (rG 2)]))]) [0] (by decide) rfl
      refine W.widen (k := 0) (n := 0) (Nat.le_of_ble_eq_true rfl) (Nat.le_of_ble_eq_true rfl) ?_
      exact W.iret (v := (-1)) hx hb hr (fun t ht hW => ⟨⟨(-1), (), rfl, rfl, by rw [ht]; exact hP9, hD9⟩, hS.F ht⟩) hS.2.2 dX5_rowOf_19
    · skip
      refine lv_iload_n hx hb dX5_rowOf_10 rfl (lv_at hl 1 rfl) ?_
      refine lv_aload_n hx hb dX5_rowOf_11 rfl (lv_at hl 0 rfl) ?_
      refine va_get (D := D) (ci := 5) (v := .int 0) (C := RX5) (T := TX5) (N := 4) hx hb hgt iwX5 hown hK hP 0 rfl rfl 0 (Nat.le_of_ble_eq_true rfl) (hgt _ wd_1_88) (fun _ h9 => h9) rfl dX5_rowOf_12 ?_
      refine lv_icmp_lt hx hb dX5_rowOf_15 (tgt := 20) rfl (fun h_15 => absurd h_15 h_1) (fun _ => ?_)
      refine lv_iconst (v := (-1)) hx hb dX5_rowOf_18 (by decide) ?_
      have hP9 := hP.sub (ws' := [(lg, .inr (5, [.int 0, .ref (rG 0), .ref (rG 1), .ref (rG 2)]))]) [0] rfl
      have hD9 := hD.sub (ws' := [(lg, .inr (5, [.int 0, .ref (rG 0), .ref (rG 1), .ref (rG 2)]))]) [0] (by decide) rfl
      refine W.widen (k := 0) (n := 0) (Nat.le_of_ble_eq_true rfl) (Nat.le_of_ble_eq_true rfl) ?_
      exact W.iret (v := (-1)) hx hb hr (fun t ht hW => ⟨⟨(-1), (), rfl, rfl, by rw [ht]; exact hP9, hD9⟩, hS.F ht⟩) hS.2.2 dX5_rowOf_19
set_option maxHeartbeats 4000000 in
set_option maxRecDepth 100000 in
theorem x_trace (l : Launch) (D : va_G) (cI cZ cC cJ : ClassId) (x : Nat) (dr : Nat) (rd : Nat) (jd : Nat) (ly : Nat) (dv : Nat) (pl : Nat) (jo : Nat) (sc : Nat) (ck : Nat) (ly0 : Nat) (dm : Nat) (lg : Nat) (rV : Nat → Nat) (rG : Nat → Nat) (f : Int32) (v : Int32) (sz : Nat) : Met l yX11_trace wsX11_trace ({ frames := 1, cells := 0, slots := 0, locals := 21 }) (va_Pc [.ref x, .int f, .int v] (fun U => U.heap.size = sz ∧ va_P D vwCl [(x, .inr (11, [.ref dr, .ref rd, .ref jd, .ref ly, .ref dv, .ref pl, .ref jo, .ref sc, .ref ck])), (dv, .inr (1, [.ref ly0, .ref dm, .ref lg, .int 0, .ref (rV 0), .ref (rV 1), .ref (rV 2)])), (lg, .inr (5, [.int 0, .ref (rG 0), .ref (rG 1), .ref (rG 2)]))] U.heap ∧ va_K D vwCl [(cI, .int), (cZ, .boolean), (cC, .char), (cJ, .long)] U ∧ va_D (fun _ => True) [(x, .inr (11, [.ref dr, .ref rd, .ref jd, .ref ly, .ref dv, .ref pl, .ref jo, .ref sc, .ref ck])), (dv, .inr (1, [.ref ly0, .ref dm, .ref lg, .int 0, .ref (rV 0), .ref (rV 1), .ref (rV 2)])), (lg, .inr (5, [.int 0, .ref (rG 0), .ref (rG 1), .ref (rG 2)]))])) (va_Qi (fun (r : Int32) (_ : Unit) => r = (-1)) (fun _ _ => True) (va_A [(x, .inr (11, [.ref dr, .ref rd, .ref jd, .ref ly, .ref dv, .ref pl, .ref jo, .ref sc, .ref ck])), (dv, .inr (1, [.ref ly0, .ref dm, .ref lg, .int 0, .ref (rV 0), .ref (rV 1), .ref (rV 2)])), (lg, .inr (5, [.int 0, .ref (rG 0), .ref (rG 1), .ref (rG 2)]))] sz)) 0 0 (va_A [(x, .inr (11, [.ref dr, .ref rd, .ref jd, .ref ly, .ref dv, .ref pl, .ref jo, .ref sc, .ref ck])), (dv, .inr (1, [.ref ly0, .ref dm, .ref lg, .int 0, .ref (rV 0), .ref (rV 1), .ref (rV 2)])), (lg, .inr (5, [.int 0, .ref (rG 0), .ref (rG 1), .ref (rG 2)]))] sz) := by
  refine Met.ofW (cc := cX11_trace) (maxL := 5) (ret := (some .int)) (by decide) rfl ?_
  intro p e s m args below meth c s₁ B hml hv
  obtain ⟨rfl, hsz, hP, hK, hD0⟩ := hv
  have hx := B.exec
  have hb := B.bytes
  have hr := B.returns
  have hgt := fun w (h : w ∈ GT) => atoms_spec (ws := wsX11_trace) B.pre w (List.mem_cons_of_mem _ h)
  have hown : s.vm.findClass RX11 = some m.cls := findClass_of_methodNamed B.named
  have hlocks := B.notSynchronized
  subst hsz
  have hD := hD0.self (sz := s.heap.size)
  generalize hAe : va_A [(x, .inr (11, [.ref dr, .ref rd, .ref jd, .ref ly, .ref dv, .ref pl, .ref jo, .ref sc, .ref ck])), (dv, .inr (1, [.ref ly0, .ref dm, .ref lg, .int 0, .ref (rV 0), .ref (rV 1), .ref (rV 2)])), (lg, .inr (5, [.int 0, .ref (rG 0), .ref (rG 1), .ref (rG 2)]))] s.heap.size = A at hD ⊢
  have hA : ∀ q : Nat, s.heap.size ≤ q → A q := fun q h => by rw [← hAe]; exact Or.inr h
  have hS : va_S A s.heap s.heap [] := va_S.rf
  have hP : va_P D vwCl [(x, .inr (11, [.ref dr, .ref rd, .ref jd, .ref ly, .ref dv, .ref pl, .ref jo, .ref sc, .ref ck])), (dv, .inr (1, [.ref ly0, .ref dm, .ref lg, .int 0, .ref (rV 0), .ref (rV 1), .ref (rV 2)])), (lg, .inr (5, [.int 0, .ref (rG 0), .ref (rG 1), .ref (rG 2)]))] s.heap := hP
  have hl := lv_entry ([.ref x, .int f, .int v]) (n := 5) (Nat.le_of_ble_eq_true rfl)
  rw [lg_entry_eq]
  generalize (lg_sl ([.ref x, .int f, .int v]) ++ List.replicate (5 - (lg_sl ([.ref x, .int f, .int v])).length) Slot.unset).toArray = ls at hl ⊢
  have hl : lv_has ls 5 [(0, .ref x), (1, .int f), (2, .int v)] := hl
  refine lv_aload_n hx hb dX11_trace_0 rfl (lv_at hl 0 rfl) ?_
  refine va_get (D := D) (ci := 11) (v := .ref dv) (C := RX11) (T := TX11) (N := 9) hx hb hgt iwX11 hown hK hP 0 rfl rfl 4 (Nat.le_of_ble_eq_true rfl) (hgt _ wd_2_21) (fun _ h9 => h9) rfl dX11_trace_1 ?_
  refine va_get (D := D) (ci := 1) (v := .ref lg) (C := RX1) (T := TX1) (N := 7) hx hb hgt iwX1 hown hK hP 1 rfl rfl 2 (Nat.le_of_ble_eq_true rfl) (hgt _ wd_1_130) (fun _ h9 => h9) rfl dX11_trace_4 ?_
  refine lv_astore_n hx hb dX11_trace_7 rfl hl (Nat.le_of_ble_eq_true rfl) (lv' := [(3, .ref lg), (0, .ref x), (1, .int f), (2, .int v)]) rfl (fun ls hl => ?_)
  refine lv_aload_n hx hb dX11_trace_8 rfl (lv_at hl 0 rfl) ?_
  refine lv_iload_n hx hb dX11_trace_9 rfl (lv_at hl 2 rfl) ?_
  have hPc := hP.sub (ws' := [(lg, .inr (5, [.int 0, .ref (rG 0), .ref (rG 1), .ref (rG 2)]))]) [2] rfl
  have hDc := hD.sub (ws' := [(lg, .inr (5, [.int 0, .ref (rG 0), .ref (rG 1), .ref (rG 2)]))]) [2] (by decide) rfl
  have hFc := va_free (wc := [(lg, .inr (5, [.int 0, .ref (rG 0), .ref (rG 1), .ref (rG 2)]))]) hD hS hA [2] rfl
  refine va_calli (va_runV (As := [.int f]) (rest := []) ⟨hx, hb, hml, hown, hgt⟩ (x_rowOf l D cI cZ cC cJ lg rG f s.heap.size) (cwV 1 hgt (gV wd_3_24 wd_3_25 wd_3_26 wd_0_10 wd_3_27) rfl rfl rfl (by decide +kernel) ⟨Nat.le_of_ble_eq_true rfl, Nat.le_of_ble_eq_true rfl⟩) ⟨fun a U g mk q => by obtain ⟨q0, q1, qP, qK, qD⟩ := q; exact ⟨q0, q1, qP, va_K.moved (u := U) (U := U.calling g mk a) (Vm.Alike.refl U.vm) qK, qD⟩, va_recv hK hP (ci := 5) (q0 := 2) rfl rfl, fun U hU hW => ⟨rfl, by rw [hU], by rw [hU]; exact hPc, va_K.moved hW.alike hK, hDc.weaken (fun _ _ _ _ => trivial)⟩⟩ rfl rfl hl.1 rfl (lv_room (Nat.le_of_ble_eq_true rfl)) dX11_trace_10 ⟨Nat.le_of_ble_eq_true rfl, Nat.le_of_ble_eq_true rfl⟩) hS (fun q _ h => hFc q h) hFc (fun r u t H1 locs ht hvm hw hB hz1 hk1 hS => ?_)
  obtain ⟨hP1, hD1⟩ := hB
  rw [ht] at hP1
  obtain ⟨hP, hD⟩ := va_join (wr := [(x, .inr (11, [.ref dr, .ref rd, .ref jd, .ref ly, .ref dv, .ref pl, .ref jo, .ref sc, .ref ck])), (dv, .inr (1, [.ref ly0, .ref dm, .ref lg, .int 0, .ref (rV 0), .ref (rV 1), .ref (rV 2)]))]) (w1 := [(lg, .inr (5, [.int 0, .ref (rG 0), .ref (rG 1), .ref (rG 2)]))]) hP hD [2] [0, 1] rfl rfl (by decide) (by decide) hk1 hFc hP1 hD1
  generalize H1 = H at hP hS ⊢
  have hP : va_P D vwCl [(x, .inr (11, [.ref dr, .ref rd, .ref jd, .ref ly, .ref dv, .ref pl, .ref jo, .ref sc, .ref ck])), (dv, .inr (1, [.ref ly0, .ref dm, .ref lg, .int 0, .ref (rV 0), .ref (rV 1), .ref (rV 2)])), (lg, .inr (5, [.int 0, .ref (rG 0), .ref (rG 1), .ref (rG 2)]))] H := hP
  have hD : va_D A [(x, .inr (11, [.ref dr, .ref rd, .ref jd, .ref ly, .ref dv, .ref pl, .ref jo, .ref sc, .ref ck])), (dv, .inr (1, [.ref ly0, .ref dm, .ref lg, .int 0, .ref (rV 0), .ref (rV 1), .ref (rV 2)])), (lg, .inr (5, [.int 0, .ref (rG 0), .ref (rG 1), .ref (rG 2)]))] := hD
  obtain rfl : r = (-1) := hw
  refine lv_istore hx hb dX11_trace_13 hl (Nat.le_of_ble_eq_true rfl) (lv' := [(4, .int ((-1))), (3, .ref lg), (0, .ref x), (1, .int f), (2, .int v)]) rfl (fun ls hl => ?_)
  refine lv_iload hx hb dX11_trace_15 (lv_at hl 0 rfl) ?_
  refine lv_iconst (v := (-1)) hx hb dX11_trace_17 (by decide) ?_
  refine lv_icmp_ne hx hb dX11_trace_18 (tgt := 23) rfl (fun h_18 => absurd (by decide) h_18) (fun _ => ?_)
  refine lv_iconst (v := (-1)) hx hb dX11_trace_21 (by decide) ?_
  refine W.widen (k := 0) (n := 0) (Nat.le_of_ble_eq_true rfl) (Nat.le_of_ble_eq_true rfl) ?_
  exact W.iret (v := (-1)) hx hb hr (fun t ht hW => ⟨⟨(-1), (), rfl, rfl, trivial⟩, hS.F ht⟩) hS.2.2 dX11_trace_22
set_option maxHeartbeats 4000000 in
set_option maxRecDepth 100000 in
theorem x_fault (l : Launch) (D : va_G) (cI cZ cC cJ : ClassId) (x : Nat) (dr : Nat) (rd : Nat) (jd : Nat) (ly : Nat) (dv : Nat) (pl : Nat) (jo : Nat) (sc : Nat) (ck : Nat) (f : Int32) (sz : Nat) : Met l yX11_fault wsX11_fault ({ frames := 0, cells := 0, slots := 0, locals := 0 }) (va_Pc [.ref x, .int f] (fun U => U.heap.size = sz ∧ va_P D vwCl [(x, .inr (11, [.ref dr, .ref rd, .ref jd, .ref ly, .ref dv, .ref pl, .ref jo, .ref sc, .ref ck])), (jd, .inr (3, [.ref dr, .int 0, .int 0]))] U.heap ∧ va_K D vwCl [(cI, .int), (cZ, .boolean), (cC, .char), (cJ, .long)] U ∧ va_D (fun _ => True) [(x, .inr (11, [.ref dr, .ref rd, .ref jd, .ref ly, .ref dv, .ref pl, .ref jo, .ref sc, .ref ck])), (jd, .inr (3, [.ref dr, .int 0, .int 0]))])) (va_Qi (fun (r : Int32) (_ : Unit) => r = (sw2 f)) (fun _ _ => True) (va_A [(x, .inr (11, [.ref dr, .ref rd, .ref jd, .ref ly, .ref dv, .ref pl, .ref jo, .ref sc, .ref ck])), (jd, .inr (3, [.ref dr, .int 0, .int 0]))] sz)) 0 0 (va_A [(x, .inr (11, [.ref dr, .ref rd, .ref jd, .ref ly, .ref dv, .ref pl, .ref jo, .ref sc, .ref ck])), (jd, .inr (3, [.ref dr, .int 0, .int 0]))] sz) := by
  refine Met.ofW (cc := cX11_fault) (maxL := 2) (ret := (some .int)) (by decide) rfl ?_
  intro p e s m args below meth c s₁ B hml hv
  obtain ⟨rfl, hsz, hP, hK, hD0⟩ := hv
  have hx := B.exec
  have hb := B.bytes
  have hr := B.returns
  have hgt := fun w (h : w ∈ GT) => atoms_spec (ws := wsX11_fault) B.pre w (List.mem_cons_of_mem _ h)
  have hown : s.vm.findClass RX11 = some m.cls := findClass_of_methodNamed B.named
  have hlocks := B.notSynchronized
  subst hsz
  have hD := hD0.self (sz := s.heap.size)
  generalize hAe : va_A [(x, .inr (11, [.ref dr, .ref rd, .ref jd, .ref ly, .ref dv, .ref pl, .ref jo, .ref sc, .ref ck])), (jd, .inr (3, [.ref dr, .int 0, .int 0]))] s.heap.size = A at hD ⊢
  have hA : ∀ q : Nat, s.heap.size ≤ q → A q := fun q h => by rw [← hAe]; exact Or.inr h
  have hS : va_S A s.heap s.heap [] := va_S.rf
  have hP : va_P D vwCl [(x, .inr (11, [.ref dr, .ref rd, .ref jd, .ref ly, .ref dv, .ref pl, .ref jo, .ref sc, .ref ck])), (jd, .inr (3, [.ref dr, .int 0, .int 0]))] s.heap := hP
  have hl := lv_entry ([.ref x, .int f]) (n := 2) (Nat.le_of_ble_eq_true rfl)
  rw [lg_entry_eq]
  generalize (lg_sl ([.ref x, .int f]) ++ List.replicate (2 - (lg_sl ([.ref x, .int f])).length) Slot.unset).toArray = ls at hl ⊢
  have hl : lv_has ls 2 [(0, .ref x), (1, .int f)] := hl
  refine lv_iload_n hx hb dX11_fault_0 rfl (lv_at hl 1 rfl) ?_
  by_cases k_1_0 : f = 0
  · subst k_1_0
    refine lv_lookup hx hb dX11_fault_1 (off := 27) (tgt := 28) (by decide) (by decide) (by decide) ?_
    refine lv_aload_n hx hb dX11_fault_28 rfl (lv_at hl 0 rfl) ?_
    refine va_get (D := D) (ci := 11) (v := .ref jd) (C := RX11) (T := TX11) (N := 9) hx hb hgt iwX11 hown hK hP 0 rfl rfl 2 (Nat.le_of_ble_eq_true rfl) (hgt _ wd_2_19) (fun _ h9 => h9) rfl dX11_fault_29 ?_
    refine va_get (D := D) (ci := 3) (v := .int 0) (C := RX3) (T := TX3) (N := 3) hx hb hgt iwX3 hown hK hP 1 rfl rfl 1 (Nat.le_of_ble_eq_true rfl) (hgt _ wd_0_210) (fun _ h9 => h9) rfl dX11_fault_32 ?_
    refine W.widen (k := 0) (n := 0) (Nat.le_of_ble_eq_true rfl) (Nat.le_of_ble_eq_true rfl) ?_
    exact W.iret (v := 0) hx hb hr (fun t ht hW => ⟨⟨0, (), rfl, (by decide), trivial⟩, hS.F ht⟩) hS.2.2 dX11_fault_35
  by_cases k_1_1 : f = 1
  · subst k_1_1
    refine lv_lookup hx hb dX11_fault_1 (off := 35) (tgt := 36) (by decide) (by decide) (by decide) ?_
    refine lv_aload_n hx hb dX11_fault_36 rfl (lv_at hl 0 rfl) ?_
    refine va_get (D := D) (ci := 11) (v := .ref jd) (C := RX11) (T := TX11) (N := 9) hx hb hgt iwX11 hown hK hP 0 rfl rfl 2 (Nat.le_of_ble_eq_true rfl) (hgt _ wd_2_19) (fun _ h9 => h9) rfl dX11_fault_37 ?_
    refine va_get (D := D) (ci := 3) (v := .int 0) (C := RX3) (T := TX3) (N := 3) hx hb hgt iwX3 hown hK hP 1 rfl rfl 2 (Nat.le_of_ble_eq_true rfl) (hgt _ wd_0_212) (fun _ h9 => h9) rfl dX11_fault_40 ?_
    refine W.widen (k := 0) (n := 0) (Nat.le_of_ble_eq_true rfl) (Nat.le_of_ble_eq_true rfl) ?_
    exact W.iret (v := 0) hx hb hr (fun t ht hW => ⟨⟨0, (), rfl, (by decide), trivial⟩, hS.F ht⟩) hS.2.2 dX11_fault_43
  refine lv_lookup hx hb dX11_fault_1 (off := 43) (tgt := 44) (by decide) (by rw [lookupswitch.offset_cons, if_neg (tne (by decide) k_1_0), lookupswitch.offset_cons, if_neg (tne (by decide) k_1_1), lookupswitch.offset_nil]) (by decide) ?_
  refine lv_iconst (v := (-1)) hx hb dX11_fault_44 (by decide) ?_
  refine W.widen (k := 0) (n := 0) (Nat.le_of_ble_eq_true rfl) (Nat.le_of_ble_eq_true rfl) ?_
  exact W.iret (v := (-1)) hx hb hr (fun t ht hW => ⟨⟨(-1), (), rfl, (by simp [sw2, k_1_0, k_1_1]), trivial⟩, hS.F ht⟩) hS.2.2 dX11_fault_45
set_option maxHeartbeats 4000000 in
set_option maxRecDepth 100000 in
theorem x_found (l : Launch) (D : va_G) (cI cZ cC cJ : ClassId) (x : Nat) (dr : Nat) (rd : Nat) (jd : Nat) (ly : Nat) (dv : Nat) (pl : Nat) (jo : Nat) (sc : Nat) (ck : Nat) (rK : Nat → Nat) (f : Int32) (sz : Nat) : Met l yX11_found wsX11_found ({ frames := 0, cells := 0, slots := 0, locals := 0 }) (va_Pc [.ref x, .int f] (fun U => U.heap.size = sz ∧ va_P D vwCl [(x, .inr (11, [.ref dr, .ref rd, .ref jd, .ref ly, .ref dv, .ref pl, .ref jo, .ref sc, .ref ck])), (ck, .inr (0, [.ref (rK 0), .ref (rK 1), .ref (rK 2), .ref (rK 3), .ref (rK 4), .ref (rK 5), .int 0, .int 0, .int ((-1)), .int 0]))] U.heap ∧ va_K D vwCl [(cI, .int), (cZ, .boolean), (cC, .char), (cJ, .long)] U ∧ va_D (fun _ => True) [(x, .inr (11, [.ref dr, .ref rd, .ref jd, .ref ly, .ref dv, .ref pl, .ref jo, .ref sc, .ref ck])), (ck, .inr (0, [.ref (rK 0), .ref (rK 1), .ref (rK 2), .ref (rK 3), .ref (rK 4), .ref (rK 5), .int 0, .int 0, .int ((-1)), .int 0]))])) (va_Qi (fun (r : Int32) (_ : Unit) => r = (sw2 f)) (fun _ _ => True) (va_A [(x, .inr (11, [.ref dr, .ref rd, .ref jd, .ref ly, .ref dv, .ref pl, .ref jo, .ref sc, .ref ck])), (ck, .inr (0, [.ref (rK 0), .ref (rK 1), .ref (rK 2), .ref (rK 3), .ref (rK 4), .ref (rK 5), .int 0, .int 0, .int ((-1)), .int 0]))] sz)) 0 0 (va_A [(x, .inr (11, [.ref dr, .ref rd, .ref jd, .ref ly, .ref dv, .ref pl, .ref jo, .ref sc, .ref ck])), (ck, .inr (0, [.ref (rK 0), .ref (rK 1), .ref (rK 2), .ref (rK 3), .ref (rK 4), .ref (rK 5), .int 0, .int 0, .int ((-1)), .int 0]))] sz) := by
  refine Met.ofW (cc := cX11_found) (maxL := 2) (ret := (some .int)) (by decide) rfl ?_
  intro p e s m args below meth c s₁ B hml hv
  obtain ⟨rfl, hsz, hP, hK, hD0⟩ := hv
  have hx := B.exec
  have hb := B.bytes
  have hr := B.returns
  have hgt := fun w (h : w ∈ GT) => atoms_spec (ws := wsX11_found) B.pre w (List.mem_cons_of_mem _ h)
  have hown : s.vm.findClass RX11 = some m.cls := findClass_of_methodNamed B.named
  have hlocks := B.notSynchronized
  subst hsz
  have hD := hD0.self (sz := s.heap.size)
  generalize hAe : va_A [(x, .inr (11, [.ref dr, .ref rd, .ref jd, .ref ly, .ref dv, .ref pl, .ref jo, .ref sc, .ref ck])), (ck, .inr (0, [.ref (rK 0), .ref (rK 1), .ref (rK 2), .ref (rK 3), .ref (rK 4), .ref (rK 5), .int 0, .int 0, .int ((-1)), .int 0]))] s.heap.size = A at hD ⊢
  have hA : ∀ q : Nat, s.heap.size ≤ q → A q := fun q h => by rw [← hAe]; exact Or.inr h
  have hS : va_S A s.heap s.heap [] := va_S.rf
  have hP : va_P D vwCl [(x, .inr (11, [.ref dr, .ref rd, .ref jd, .ref ly, .ref dv, .ref pl, .ref jo, .ref sc, .ref ck])), (ck, .inr (0, [.ref (rK 0), .ref (rK 1), .ref (rK 2), .ref (rK 3), .ref (rK 4), .ref (rK 5), .int 0, .int 0, .int ((-1)), .int 0]))] s.heap := hP
  have hl := lv_entry ([.ref x, .int f]) (n := 2) (Nat.le_of_ble_eq_true rfl)
  rw [lg_entry_eq]
  generalize (lg_sl ([.ref x, .int f]) ++ List.replicate (2 - (lg_sl ([.ref x, .int f])).length) Slot.unset).toArray = ls at hl ⊢
  have hl : lv_has ls 2 [(0, .ref x), (1, .int f)] := hl
  refine lv_iload_n hx hb dX11_found_0 rfl (lv_at hl 1 rfl) ?_
  by_cases k_1_0 : f = 0
  · subst k_1_0
    refine lv_lookup hx hb dX11_found_1 (off := 27) (tgt := 28) (by decide) (by decide) (by decide) ?_
    refine lv_aload_n hx hb dX11_found_28 rfl (lv_at hl 0 rfl) ?_
    refine va_get (D := D) (ci := 11) (v := .ref ck) (C := RX11) (T := TX11) (N := 9) hx hb hgt iwX11 hown hK hP 0 rfl rfl 8 (Nat.le_of_ble_eq_true rfl) (hgt _ wd_2_25) (fun _ h9 => h9) rfl dX11_found_29 ?_
    refine va_get (D := D) (ci := 0) (v := .int 0) (C := RX0) (T := TX0) (N := 10) hx hb hgt iwX0 hown hK hP 1 rfl rfl 6 (Nat.le_of_ble_eq_true rfl) (hgt _ wd_1_228) (fun _ h9 => h9) rfl dX11_found_32 ?_
    refine W.widen (k := 0) (n := 0) (Nat.le_of_ble_eq_true rfl) (Nat.le_of_ble_eq_true rfl) ?_
    exact W.iret (v := 0) hx hb hr (fun t ht hW => ⟨⟨0, (), rfl, (by decide), trivial⟩, hS.F ht⟩) hS.2.2 dX11_found_35
  by_cases k_1_1 : f = 1
  · subst k_1_1
    refine lv_lookup hx hb dX11_found_1 (off := 35) (tgt := 36) (by decide) (by decide) (by decide) ?_
    refine lv_aload_n hx hb dX11_found_36 rfl (lv_at hl 0 rfl) ?_
    refine va_get (D := D) (ci := 11) (v := .ref ck) (C := RX11) (T := TX11) (N := 9) hx hb hgt iwX11 hown hK hP 0 rfl rfl 8 (Nat.le_of_ble_eq_true rfl) (hgt _ wd_2_25) (fun _ h9 => h9) rfl dX11_found_37 ?_
    refine va_get (D := D) (ci := 0) (v := .int 0) (C := RX0) (T := TX0) (N := 10) hx hb hgt iwX0 hown hK hP 1 rfl rfl 7 (Nat.le_of_ble_eq_true rfl) (hgt _ wd_1_230) (fun _ h9 => h9) rfl dX11_found_40 ?_
    refine lv_if_eq hx hb dX11_found_43 (tgt := 50) rfl (fun _ => ?_) (fun h_43 => absurd (by decide) h_43)
    refine lv_aload_n hx hb dX11_found_50 rfl (lv_at hl 0 rfl) ?_
    refine va_get (D := D) (ci := 11) (v := .ref ck) (C := RX11) (T := TX11) (N := 9) hx hb hgt iwX11 hown hK hP 0 rfl rfl 8 (Nat.le_of_ble_eq_true rfl) (hgt _ wd_2_25) (fun _ h9 => h9) rfl dX11_found_51 ?_
    refine va_get (D := D) (ci := 0) (v := .int 0) (C := RX0) (T := TX0) (N := 10) hx hb hgt iwX0 hown hK hP 1 rfl rfl 9 (Nat.le_of_ble_eq_true rfl) (hgt _ wd_1_234) (fun _ h9 => h9) rfl dX11_found_54 ?_
    refine W.widen (k := 0) (n := 0) (Nat.le_of_ble_eq_true rfl) (Nat.le_of_ble_eq_true rfl) ?_
    exact W.iret (v := 0) hx hb hr (fun t ht hW => ⟨⟨0, (), rfl, (by decide), trivial⟩, hS.F ht⟩) hS.2.2 dX11_found_57
  refine lv_lookup hx hb dX11_found_1 (off := 57) (tgt := 58) (by decide) (by rw [lookupswitch.offset_cons, if_neg (tne (by decide) k_1_0), lookupswitch.offset_cons, if_neg (tne (by decide) k_1_1), lookupswitch.offset_nil]) (by decide) ?_
  refine lv_iconst (v := (-1)) hx hb dX11_found_58 (by decide) ?_
  refine W.widen (k := 0) (n := 0) (Nat.le_of_ble_eq_true rfl) (Nat.le_of_ble_eq_true rfl) ?_
  exact W.iret (v := (-1)) hx hb hr (fun t ht hW => ⟨⟨(-1), (), rfl, (by simp [sw2, k_1_0, k_1_1]), trivial⟩, hS.F ht⟩) hS.2.2 dX11_found_59
set_option maxHeartbeats 4000000 in
set_option maxRecDepth 100000 in
theorem x_state (l : Launch) (D : va_G) (cI cZ cC cJ : ClassId) (x : Nat) (dr : Nat) (rd : Nat) (jd : Nat) (ly : Nat) (dv : Nat) (pl : Nat) (jo : Nat) (sc : Nat) (ck : Nat) (ly0 : Nat) (dm : Nat) (lg : Nat) (rV : Nat → Nat) (rG : Nat → Nat) (jk : Nat) (rJ : Nat → Nat) (sk : Nat) (rS : Nat → Nat) (rY : Nat → Nat) (ho : Nat) (lru : Nat) (rU : Nat → Nat) (f : Int32) (sz : Nat) : Met l yX11_state wsX11_state ({ frames := 0, cells := 0, slots := 0, locals := 0 }) (va_Pc [.ref x, .int f] (fun U => U.heap.size = sz ∧ va_P D vwCl [(x, .inr (11, [.ref dr, .ref rd, .ref jd, .ref ly, .ref dv, .ref pl, .ref jo, .ref sc, .ref ck])), (dv, .inr (1, [.ref ly0, .ref dm, .ref lg, .int 0, .ref (rV 0), .ref (rV 1), .ref (rV 2)])), (lg, .inr (5, [.int 0, .ref (rG 0), .ref (rG 1), .ref (rG 2)])), (jo, .inr (10, [.int 0, .ref jk, .ref (rJ 0), .ref (rJ 1)])), (sc, .inr (10, [.int 0, .ref sk, .ref (rS 0), .ref (rS 1)])), (ly, .inr (4, [.int 0, .ref (rY 0), .ref (rY 1), .ref (rY 2), .ref (rY 3), .ref (rY 4), .ref (rY 5), .ref ho, .ref (rY 6), .ref (rY 7), .ref (rY 8), .ref (rY 9), .ref lru])), (lru, .inr (9, [.int 0, .ref (rU 0), .ref (rU 1), .ref (rU 2), .ref (rU 3), .ref (rU 4), .ref (rU 5)]))] U.heap ∧ va_K D vwCl [(cI, .int), (cZ, .boolean), (cC, .char), (cJ, .long)] U ∧ va_D (fun _ => True) [(x, .inr (11, [.ref dr, .ref rd, .ref jd, .ref ly, .ref dv, .ref pl, .ref jo, .ref sc, .ref ck])), (dv, .inr (1, [.ref ly0, .ref dm, .ref lg, .int 0, .ref (rV 0), .ref (rV 1), .ref (rV 2)])), (lg, .inr (5, [.int 0, .ref (rG 0), .ref (rG 1), .ref (rG 2)])), (jo, .inr (10, [.int 0, .ref jk, .ref (rJ 0), .ref (rJ 1)])), (sc, .inr (10, [.int 0, .ref sk, .ref (rS 0), .ref (rS 1)])), (ly, .inr (4, [.int 0, .ref (rY 0), .ref (rY 1), .ref (rY 2), .ref (rY 3), .ref (rY 4), .ref (rY 5), .ref ho, .ref (rY 6), .ref (rY 7), .ref (rY 8), .ref (rY 9), .ref lru])), (lru, .inr (9, [.int 0, .ref (rU 0), .ref (rU 1), .ref (rU 2), .ref (rU 3), .ref (rU 4), .ref (rU 5)]))])) (va_Qi (fun (r : Int32) (_ : Unit) => r = (sw5 f)) (fun _ _ => True) (va_A [(x, .inr (11, [.ref dr, .ref rd, .ref jd, .ref ly, .ref dv, .ref pl, .ref jo, .ref sc, .ref ck])), (dv, .inr (1, [.ref ly0, .ref dm, .ref lg, .int 0, .ref (rV 0), .ref (rV 1), .ref (rV 2)])), (lg, .inr (5, [.int 0, .ref (rG 0), .ref (rG 1), .ref (rG 2)])), (jo, .inr (10, [.int 0, .ref jk, .ref (rJ 0), .ref (rJ 1)])), (sc, .inr (10, [.int 0, .ref sk, .ref (rS 0), .ref (rS 1)])), (ly, .inr (4, [.int 0, .ref (rY 0), .ref (rY 1), .ref (rY 2), .ref (rY 3), .ref (rY 4), .ref (rY 5), .ref ho, .ref (rY 6), .ref (rY 7), .ref (rY 8), .ref (rY 9), .ref lru])), (lru, .inr (9, [.int 0, .ref (rU 0), .ref (rU 1), .ref (rU 2), .ref (rU 3), .ref (rU 4), .ref (rU 5)]))] sz)) 0 0 (va_A [(x, .inr (11, [.ref dr, .ref rd, .ref jd, .ref ly, .ref dv, .ref pl, .ref jo, .ref sc, .ref ck])), (dv, .inr (1, [.ref ly0, .ref dm, .ref lg, .int 0, .ref (rV 0), .ref (rV 1), .ref (rV 2)])), (lg, .inr (5, [.int 0, .ref (rG 0), .ref (rG 1), .ref (rG 2)])), (jo, .inr (10, [.int 0, .ref jk, .ref (rJ 0), .ref (rJ 1)])), (sc, .inr (10, [.int 0, .ref sk, .ref (rS 0), .ref (rS 1)])), (ly, .inr (4, [.int 0, .ref (rY 0), .ref (rY 1), .ref (rY 2), .ref (rY 3), .ref (rY 4), .ref (rY 5), .ref ho, .ref (rY 6), .ref (rY 7), .ref (rY 8), .ref (rY 9), .ref lru])), (lru, .inr (9, [.int 0, .ref (rU 0), .ref (rU 1), .ref (rU 2), .ref (rU 3), .ref (rU 4), .ref (rU 5)]))] sz) := by
  refine Met.ofW (cc := cX11_state) (maxL := 2) (ret := (some .int)) (by decide) rfl ?_
  intro p e s m args below meth c s₁ B hml hv
  obtain ⟨rfl, hsz, hP, hK, hD0⟩ := hv
  have hx := B.exec
  have hb := B.bytes
  have hr := B.returns
  have hgt := fun w (h : w ∈ GT) => atoms_spec (ws := wsX11_state) B.pre w (List.mem_cons_of_mem _ h)
  have hown : s.vm.findClass RX11 = some m.cls := findClass_of_methodNamed B.named
  have hlocks := B.notSynchronized
  subst hsz
  have hD := hD0.self (sz := s.heap.size)
  generalize hAe : va_A [(x, .inr (11, [.ref dr, .ref rd, .ref jd, .ref ly, .ref dv, .ref pl, .ref jo, .ref sc, .ref ck])), (dv, .inr (1, [.ref ly0, .ref dm, .ref lg, .int 0, .ref (rV 0), .ref (rV 1), .ref (rV 2)])), (lg, .inr (5, [.int 0, .ref (rG 0), .ref (rG 1), .ref (rG 2)])), (jo, .inr (10, [.int 0, .ref jk, .ref (rJ 0), .ref (rJ 1)])), (sc, .inr (10, [.int 0, .ref sk, .ref (rS 0), .ref (rS 1)])), (ly, .inr (4, [.int 0, .ref (rY 0), .ref (rY 1), .ref (rY 2), .ref (rY 3), .ref (rY 4), .ref (rY 5), .ref ho, .ref (rY 6), .ref (rY 7), .ref (rY 8), .ref (rY 9), .ref lru])), (lru, .inr (9, [.int 0, .ref (rU 0), .ref (rU 1), .ref (rU 2), .ref (rU 3), .ref (rU 4), .ref (rU 5)]))] s.heap.size = A at hD ⊢
  have hA : ∀ q : Nat, s.heap.size ≤ q → A q := fun q h => by rw [← hAe]; exact Or.inr h
  have hS : va_S A s.heap s.heap [] := va_S.rf
  have hP : va_P D vwCl [(x, .inr (11, [.ref dr, .ref rd, .ref jd, .ref ly, .ref dv, .ref pl, .ref jo, .ref sc, .ref ck])), (dv, .inr (1, [.ref ly0, .ref dm, .ref lg, .int 0, .ref (rV 0), .ref (rV 1), .ref (rV 2)])), (lg, .inr (5, [.int 0, .ref (rG 0), .ref (rG 1), .ref (rG 2)])), (jo, .inr (10, [.int 0, .ref jk, .ref (rJ 0), .ref (rJ 1)])), (sc, .inr (10, [.int 0, .ref sk, .ref (rS 0), .ref (rS 1)])), (ly, .inr (4, [.int 0, .ref (rY 0), .ref (rY 1), .ref (rY 2), .ref (rY 3), .ref (rY 4), .ref (rY 5), .ref ho, .ref (rY 6), .ref (rY 7), .ref (rY 8), .ref (rY 9), .ref lru])), (lru, .inr (9, [.int 0, .ref (rU 0), .ref (rU 1), .ref (rU 2), .ref (rU 3), .ref (rU 4), .ref (rU 5)]))] s.heap := hP
  have hl := lv_entry ([.ref x, .int f]) (n := 2) (Nat.le_of_ble_eq_true rfl)
  rw [lg_entry_eq]
  generalize (lg_sl ([.ref x, .int f]) ++ List.replicate (2 - (lg_sl ([.ref x, .int f])).length) Slot.unset).toArray = ls at hl ⊢
  have hl : lv_has ls 2 [(0, .ref x), (1, .int f)] := hl
  refine lv_iload_n hx hb dX11_state_0 rfl (lv_at hl 1 rfl) ?_
  by_cases k_1_0 : f = 0
  · subst k_1_0
    refine lv_tableIn hx hb dX11_state_1 (off := 35) (tgt := 36) (by decide) (by decide) (by decide) (by decide) ?_
    refine lv_aload_n hx hb dX11_state_36 rfl (lv_at hl 0 rfl) ?_
    refine va_get (D := D) (ci := 11) (v := .ref dv) (C := RX11) (T := TX11) (N := 9) hx hb hgt iwX11 hown hK hP 0 rfl rfl 4 (Nat.le_of_ble_eq_true rfl) (hgt _ wd_2_21) (fun _ h9 => h9) rfl dX11_state_37 ?_
    refine va_get (D := D) (ci := 1) (v := .ref lg) (C := RX1) (T := TX1) (N := 7) hx hb hgt iwX1 hown hK hP 1 rfl rfl 2 (Nat.le_of_ble_eq_true rfl) (hgt _ wd_1_130) (fun _ h9 => h9) rfl dX11_state_40 ?_
    refine va_get (D := D) (ci := 5) (v := .int 0) (C := RX5) (T := TX5) (N := 4) hx hb hgt iwX5 hown hK hP 2 rfl rfl 0 (Nat.le_of_ble_eq_true rfl) (hgt _ wd_1_90) (fun _ h9 => h9) rfl dX11_state_43 ?_
    refine W.widen (k := 0) (n := 0) (Nat.le_of_ble_eq_true rfl) (Nat.le_of_ble_eq_true rfl) ?_
    exact W.iret (v := 0) hx hb hr (fun t ht hW => ⟨⟨0, (), rfl, (by decide), trivial⟩, hS.F ht⟩) hS.2.2 dX11_state_46
  by_cases k_1_1 : f = 1
  · subst k_1_1
    refine lv_tableIn hx hb dX11_state_1 (off := 46) (tgt := 47) (by decide) (by decide) (by decide) (by decide) ?_
    refine lv_aload_n hx hb dX11_state_47 rfl (lv_at hl 0 rfl) ?_
    refine va_get (D := D) (ci := 11) (v := .ref dv) (C := RX11) (T := TX11) (N := 9) hx hb hgt iwX11 hown hK hP 0 rfl rfl 4 (Nat.le_of_ble_eq_true rfl) (hgt _ wd_2_21) (fun _ h9 => h9) rfl dX11_state_48 ?_
    refine va_get (D := D) (ci := 1) (v := .int 0) (C := RX1) (T := TX1) (N := 7) hx hb hgt iwX1 hown hK hP 1 rfl rfl 3 (Nat.le_of_ble_eq_true rfl) (hgt _ wd_1_132) (fun _ h9 => h9) rfl dX11_state_51 ?_
    refine W.widen (k := 0) (n := 0) (Nat.le_of_ble_eq_true rfl) (Nat.le_of_ble_eq_true rfl) ?_
    exact W.iret (v := 0) hx hb hr (fun t ht hW => ⟨⟨0, (), rfl, (by decide), trivial⟩, hS.F ht⟩) hS.2.2 dX11_state_54
  by_cases k_1_2 : f = 2
  · subst k_1_2
    refine lv_tableIn hx hb dX11_state_1 (off := 54) (tgt := 55) (by decide) (by decide) (by decide) (by decide) ?_
    refine lv_aload_n hx hb dX11_state_55 rfl (lv_at hl 0 rfl) ?_
    refine va_get (D := D) (ci := 11) (v := .ref jo) (C := RX11) (T := TX11) (N := 9) hx hb hgt iwX11 hown hK hP 0 rfl rfl 6 (Nat.le_of_ble_eq_true rfl) (hgt _ wd_2_23) (fun _ h9 => h9) rfl dX11_state_56 ?_
    refine va_get (D := D) (ci := 10) (v := .int 0) (C := RX10) (T := TX10) (N := 4) hx hb hgt iwX10 hown hK hP 3 rfl rfl 0 (Nat.le_of_ble_eq_true rfl) (hgt _ wd_1_193) (fun _ h9 => h9) rfl dX11_state_59 ?_
    refine W.widen (k := 0) (n := 0) (Nat.le_of_ble_eq_true rfl) (Nat.le_of_ble_eq_true rfl) ?_
    exact W.iret (v := 0) hx hb hr (fun t ht hW => ⟨⟨0, (), rfl, (by decide), trivial⟩, hS.F ht⟩) hS.2.2 dX11_state_62
  by_cases k_1_3 : f = 3
  · subst k_1_3
    refine lv_tableIn hx hb dX11_state_1 (off := 62) (tgt := 63) (by decide) (by decide) (by decide) (by decide) ?_
    refine lv_aload_n hx hb dX11_state_63 rfl (lv_at hl 0 rfl) ?_
    refine va_get (D := D) (ci := 11) (v := .ref sc) (C := RX11) (T := TX11) (N := 9) hx hb hgt iwX11 hown hK hP 0 rfl rfl 7 (Nat.le_of_ble_eq_true rfl) (hgt _ wd_2_24) (fun _ h9 => h9) rfl dX11_state_64 ?_
    refine va_get (D := D) (ci := 10) (v := .int 0) (C := RX10) (T := TX10) (N := 4) hx hb hgt iwX10 hown hK hP 4 rfl rfl 0 (Nat.le_of_ble_eq_true rfl) (hgt _ wd_1_193) (fun _ h9 => h9) rfl dX11_state_67 ?_
    refine W.widen (k := 0) (n := 0) (Nat.le_of_ble_eq_true rfl) (Nat.le_of_ble_eq_true rfl) ?_
    exact W.iret (v := 0) hx hb hr (fun t ht hW => ⟨⟨0, (), rfl, (by decide), trivial⟩, hS.F ht⟩) hS.2.2 dX11_state_70
  by_cases k_1_4 : f = 4
  · subst k_1_4
    refine lv_tableIn hx hb dX11_state_1 (off := 70) (tgt := 71) (by decide) (by decide) (by decide) (by decide) ?_
    refine lv_aload_n hx hb dX11_state_71 rfl (lv_at hl 0 rfl) ?_
    refine va_get (D := D) (ci := 11) (v := .ref ly) (C := RX11) (T := TX11) (N := 9) hx hb hgt iwX11 hown hK hP 0 rfl rfl 3 (Nat.le_of_ble_eq_true rfl) (hgt _ wd_2_20) (fun _ h9 => h9) rfl dX11_state_72 ?_
    refine va_get (D := D) (ci := 4) (v := .ref lru) (C := RX4) (T := TX4) (N := 13) hx hb hgt iwX4 hown hK hP 5 rfl rfl 12 (Nat.le_of_ble_eq_true rfl) (hgt _ wd_1_47) (fun _ h9 => h9) rfl dX11_state_75 ?_
    refine va_get (D := D) (ci := 9) (v := .int 0) (C := RX9) (T := TX9) (N := 7) hx hb hgt iwX9 hown hK hP 6 rfl rfl 0 (Nat.le_of_ble_eq_true rfl) (hgt _ wd_0_54) (fun _ h9 => h9) rfl dX11_state_78 ?_
    refine W.widen (k := 0) (n := 0) (Nat.le_of_ble_eq_true rfl) (Nat.le_of_ble_eq_true rfl) ?_
    exact W.iret (v := 0) hx hb hr (fun t ht hW => ⟨⟨0, (), rfl, (by decide), trivial⟩, hS.F ht⟩) hS.2.2 dX11_state_81
  refine lv_tableOut hx hb dX11_state_1 (tgt := 82) (by have a0 := tne (z := 0) (by decide) k_1_0; have a1 := tne (z := 1) (by decide) k_1_1; have a2 := tne (z := 2) (by decide) k_1_2; have a3 := tne (z := 3) (by decide) k_1_3; have a4 := tne (z := 4) (by decide) k_1_4; omega) (by decide) ?_
  refine lv_iconst (v := (-1)) hx hb dX11_state_82 (by decide) ?_
  refine W.widen (k := 0) (n := 0) (Nat.le_of_ble_eq_true rfl) (Nat.le_of_ble_eq_true rfl) ?_
  exact W.iret (v := (-1)) hx hb hr (fun t ht hW => ⟨⟨(-1), (), rfl, (by simp [sw5, k_1_0, k_1_1, k_1_2, k_1_3, k_1_4]), trivial⟩, hS.F ht⟩) hS.2.2 dX11_state_83
