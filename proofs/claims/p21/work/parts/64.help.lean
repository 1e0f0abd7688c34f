set_option maxHeartbeats 4000000 in
set_option maxRecDepth 20000 in
theorem hn_compile {p : Program} {l : Launch} {e : Env} {s s0 : State} {m : MethodId} {below : List Frame} {meth : Method} {c : Code} {D : va_G} {cI cZ cC cJ cA : ClassId} {P : Nat → Nat} {lo : Nat} {fo : Nat → Int64} {qS : Nat → Nat} (hx : p.tables.exec = Jvm.exec) (hb : c.code = cL_compile) (hml : c.maxLocals = 3) (hr : meth.sig.returnType = some .int) (hlk : meth.locks = false) (hgt : ∀ w ∈ GT, w.before ([.ref (P 0), .ref lo] : List Value).toArray s = true) (hown : s.vm.findClass RL = some m.cls) (hK : va_K D vwCl [(cI, .int), (cZ, .boolean), (cC, .char), (cJ, .long), (cA, .array .int)] s) (hO : Old s0 s) (hAO : ∀ q, aP P 77 q → s0.heap.size ≤ q) (hlo : s0.heap.size ≤ lo) (hxo : ¬ aP P 77 lo) (hE : xE s0 qS) (M M' : Mm) (r' : Int32) (hq : q_ChipMap_compile M = some (M', r')) (hP : va_P D vwCl (wX cI cZ cC cJ cA P M) s.heap) (hPo : va_P D vwCl [(lo, .inl (cJ, 1, .inr (.inl fo)))] s.heap) (hD : va_D (aP P 77) (wX cI cZ cC cJ cA P M)) : W p l e { frames := 10, cells := 1, slots := 6, locals := 220 } s m ([.ref (P 0), .ref lo] : List Value).toArray below meth c s.heap [] 0 0 (MQ below (hQ D cJ (wX cI cZ cC cJ cA P M') lo (fun k f => k = 0 ∧ f 0 = (r' : Int32).toInt64) (hA P lo s.heap.size)) ([.ref (P 0), .ref lo] : List Value).toArray s 1 6 (hA P lo s.heap.size)) (entryFrame m ([.ref (P 0), .ref lo] : List Value).toArray 3) := by
  have hBO : ∀ q, hA P lo s.heap.size q → s0.heap.size ≤ q := fun q h => h.elim (hAO q) (fun h => h.elim (fun h => h ▸ hlo) (fun h => Nat.le_trans hO.2.1 h))
  have hS : va_S (hA P lo s.heap.size) s.heap s.heap [] := va_S.rf
  have hl := lv_entry ([.ref (P 0), .ref lo]) (n := 3) (Nat.le_of_ble_eq_true rfl)
  rw [lg_entry_eq]
  generalize (lg_sl ([.ref (P 0), .ref lo]) ++ List.replicate (3 - (lg_sl ([.ref (P 0), .ref lo])).length) Slot.unset).toArray = ls at hl ⊢
  have hl : lv_has ls 3 [(0, .ref (P 0)), (1, .ref lo)] := hl
  refine lv_aload_n hx hb dL_compile_0 rfl (lv_at hl 1 rfl) ?_
  refine lv_iconst (v := 0) hx hb dL_compile_1 (by decide) ?_
  refine lv_aload_n hx hb dL_compile_2 rfl (lv_at hl 0 rfl) ?_
  refine va_calli (va_runV (As := []) (rest := [.int 0, .ref lo]) ⟨hx, hb, hml, hown, hgt⟩ (z_ChipMap_compile l D cI cZ cC cJ cA P s0 hAO qS hE M M' r' hq) (cwV 0 hgt (gV wd_3_134 wd_3_135 wd_3_136 wd_0_1 wd_3_137) rfl rfl rfl (by decide +kernel) ⟨Nat.le_of_ble_eq_true rfl, Nat.le_of_ble_eq_true rfl⟩) (prL hP hK hD hO hBO hS (va_recv hK hP (ci := 0) (q0 := 0) rfl gX_0)) rfl rfl hl.1 rfl (lv_room (Nat.le_of_ble_eq_true rfl)) dL_compile_3 ⟨Nat.le_of_ble_eq_true rfl, Nat.le_of_ble_eq_true rfl⟩) hS (fun q _ h => Or.inl h) (fun q h => Or.inl h) (fun r u t H1 locs1 ht _ hw hB _ hk hS => ?_)
  rw [ht] at hB
  have hPo1 : va_P D vwCl [(lo, .inl (cJ, 1, .inr (.inl fo)))] H1 := hPo.kept (fun k q hq => by
    have hl := (hPo k q hq).lt
    rw [one_w hq] at hl ⊢
    exact hk lo hl hxo)
  have hDo : va_D (hA P lo s.heap.size) [(lo, .inl (cJ, 1, .inr (.inl fo)))] := ⟨fun i j p q hi hj _ => by
    have hi := (List.getElem?_eq_some_iff.mp hi).1
    have hj := (List.getElem?_eq_some_iff.mp hj).1
    simp at hi hj
    omega, fun k q hq => by rw [one_w hq]; exact Or.inr (Or.inl rfl)⟩
  have hDD : va_D (hA P lo s.heap.size) ((wX cI cZ cC cJ cA P M') ++ [(lo, .inl (cJ, 1, .inr (.inl fo)))]) := va_D.app (hB.2.weaken (fun _ _ _ h => Or.inl h)) hDo (fun i j p q hi hj hpq => by
    have h1 := hB.2.2 i p hi
    rw [hpq, one_w hj] at h1
    exact hxo h1)
  refine lv_i2l (v := (r : Int32).toInt64) hx hb dL_compile_6 rfl ?_
  refine va_last hx hb hK (hB.1.app hPo1) hDD hS 77 3 rfl rfl (by unfold vp_in; decide) dL_compile_7 (fun H2 locs2 h1 h2 h3 => ?_)
  refine lv_goto hx hb dL_compile_8 (tgt := 14) rfl ?_
  refine lv_iconst (v := 0) hx hb dL_compile_14 (by decide) ?_
  refine W.widen (k := 1) (n := 6) (by decide) (by decide) ?_
  exact W.iret (v := 0) hx hb hr (fun t ht hW => ⟨⟨0, vp_updL fo (0 : Int32).toNatClampNeg (r : Int32).toInt64, rfl, ⟨rfl, by rw [← hw]; exact if_pos rfl⟩, by show va_P D vwCl (wX cI cZ cC cJ cA P M') t.heap ∧ va_P D vwCl [(lo, .inl (cJ, 1, .inr (.inl (vp_updL fo (0 : Int32).toNatClampNeg (r : Int32).toInt64))))] t.heap; rw [ht]; exact ⟨vP_l (w2 := [(lo, .inl (cJ, 1, .inr (.inl (vp_updL fo (0 : Int32).toNatClampNeg (r : Int32).toInt64))))]) h1, vP_r (w1 := (wX cI cZ cC cJ cA P M')) h1⟩⟩, h3.F ht⟩) h3.2.2 dL_compile_15
set_option maxHeartbeats 4000000 in
set_option maxRecDepth 20000 in
theorem ht_compile1 {p : Program} {l : Launch} {e : Env} {s s0 : State} {m : MethodId} {below : List Frame} {meth : Method} {c : Code} {D : va_G} {cI cZ cC cJ cA : ClassId} {P : Nat → Nat} {lo : Nat} {fo : Nat → Int64} {qS : Nat → Nat} (hx : p.tables.exec = Jvm.exec) (hb : c.code = cL_compile) (hml : c.maxLocals = 3) (hr : meth.sig.returnType = some .int) (hlk : meth.locks = false) (hgt : ∀ w ∈ GT, w.before ([.ref (P 0), .ref lo] : List Value).toArray s = true) (hown : s.vm.findClass RL = some m.cls) (hK : va_K D vwCl [(cI, .int), (cZ, .boolean), (cC, .char), (cJ, .long), (cA, .array .int)] s) (hO : Old s0 s) (hAO : ∀ q, aP P 77 q → s0.heap.size ≤ q) (hlo : s0.heap.size ≤ lo) (hxo : ¬ aP P 77 lo) (hE : xE s0 qS) (M M' : Mm) (r' : Int32) {c1 c2 : ClassId} (hlt : l.stackTraces = false) (htab : c.exceptionTable.toList = tableOf [(0, 8, 11, 13)]) (hT1 : ThrF "java/lang/IllegalArgumentException" s0) (hF1 : s0.vm.findClass "java/lang/IllegalArgumentException" = some c1) (hq : qt_ChipMap_compile M = some (M', 1)) (hP : va_P D vwCl (wX cI cZ cC cJ cA P M) s.heap) (hPo : va_P D vwCl [(lo, .inl (cJ, 1, .inr (.inl fo)))] s.heap) (hD : va_D (aP P 77) (wX cI cZ cC cJ cA P M)) : W p l e { frames := 10, cells := 1, slots := 6, locals := 220 } s m ([.ref (P 0), .ref lo] : List Value).toArray below meth c s.heap [] 0 0 (MQ below (hQ D cJ (wX cI cZ cC cJ cA P M') lo (fun k _ => k = 1) (hA P lo s.heap.size)) ([.ref (P 0), .ref lo] : List Value).toArray s 1 6 (hA P lo s.heap.size)) (entryFrame m ([.ref (P 0), .ref lo] : List Value).toArray 3) := by
  have hBO : ∀ q, hA P lo s.heap.size q → s0.heap.size ≤ q := fun q h => h.elim (hAO q) (fun h => h.elim (fun h => h ▸ hlo) (fun h => Nat.le_trans hO.2.1 h))
  have hS : va_S (hA P lo s.heap.size) s.heap s.heap [] := va_S.rf
  have hl := lv_entry ([.ref (P 0), .ref lo]) (n := 3) (Nat.le_of_ble_eq_true rfl)
  rw [lg_entry_eq]
  generalize (lg_sl ([.ref (P 0), .ref lo]) ++ List.replicate (3 - (lg_sl ([.ref (P 0), .ref lo])).length) Slot.unset).toArray = ls at hl ⊢
  have hl : lv_has ls 3 [(0, .ref (P 0)), (1, .ref lo)] := hl
  refine lv_aload_n hx hb dL_compile_0 rfl (lv_at hl 1 rfl) ?_
  refine lv_iconst (v := 0) hx hb dL_compile_1 (by decide) ?_
  refine lv_aload_n hx hb dL_compile_2 rfl (lv_at hl 0 rfl) ?_
  refine in_VT2 (R' := { frames := 9, cells := 1, slots := 6, locals := 199 }) (own := "ChipMapLaw") (C := "ChipMap") (y := yX0_compile) (hpc := 11) (mc := 1) (ms := 6) (Qt := fun q Hh => qT D c1 c2 (wX cI cZ cC cJ cA P M') 1 q Hh) (free := aP P 77) (b := P 0) (As := []) (rest := [.int 0, .ref lo]) hx hb hml hown (hgt _ wd_3_134) (hgt _ wd_3_135) (hgt _ wd_3_136) (hgt _ wd_3_137) (by decide) (by decide +kernel) (fun sig h => by cases h; rfl) (va_recv hK hP (ci := 0) (q0 := 0) rfl gX_0) rfl hl.1 rfl (lv_room (Nat.le_of_ble_eq_true rfl)) dL_compile_3 ⟨by decide, by decide⟩ ⟨by decide, by decide, rfl, rfl⟩ (fun s' mk methk ck bel hH hW hfc hcb hcl hce hck => ?_) (fun T q l1 n1 n2 X hq => ?_) (fun q H1 L hL hz hk hq => ?_)
  · have hB := t_ChipMap_compile (p := p) (l := l) (e := e) (s := s') (m := mk) (below := bel) (meth := methk) (c := ck) (c2 := c2) hx hcb hcl hck (fun w h => word_at hW (gt_g h).2 (hgt w h)) hfc (va_K.moved hW.alike hK) (Old.step hO (fun q (h : False) => h.elim) (va_S.rf (H0 := s.heap)) hH hW) hAO hlt hce hT1 hF1 hE M M' 1 hq (by rw [hH]; exact hP) hD
    rw [hH] at hB
    exact hB
  · obtain ⟨⟨ce, h1, h2, h3⟩, -⟩ := hq
    exact ct_cold X (g := F0 m 3 ls [.int 0, .ref lo]) rfl htab rfl (by decide) hown (name := "java/lang/IllegalArgumentException") (hgt _ wd_3_133) (by rw [hO.1.alike.findClass]; exact hF1) h1 h2 h3
  · refine W.eq (g2 := F0 m 11 ls [.ref q]) rfl ?_
    refine lv_astore_n hx hb dL_compile_11 rfl hl (Nat.le_of_ble_eq_true rfl) (lv' := (2, .ref q) :: [(0, .ref (P 0)), (1, .ref lo)]) rfl (fun ls hl => ?_)
    refine lv_iconst (v := 1) hx hb dL_compile_12 (by decide) ?_
    refine W.widen (k := 1) (n := 6) (by decide) (by decide) ?_
    have hPo1 : va_P D vwCl [(lo, .inl (cJ, 1, .inr (.inl fo)))] H1 := hPo.kept (fun k q hq => by
      have hl := (hPo k q hq).lt
      rw [one_w hq] at hl ⊢
      exact hk lo hl (fun x hx e => hxo (e ▸ hL x hx)))
    exact W.iret (v := 1) hx hb hr (fun t ht hW => ⟨⟨1, fo, rfl, rfl, by show va_P D vwCl (wX cI cZ cC cJ cA P M') t.heap ∧ va_P D vwCl [(lo, .inl (cJ, 1, .inr (.inl fo)))] t.heap; rw [ht]; exact ⟨hq.2, hPo1⟩⟩, by rw [ht]; exact hz, fun z h1 h2 => by rw [ht]; exact hk z h1 (fun x hx e => h2 (e ▸ Or.inl (hL x hx)))⟩) (fun x hx => Or.inl (hL x (by simpa using hx))) dL_compile_13
set_option maxHeartbeats 4000000 in
set_option maxRecDepth 20000 in
theorem hn_fetch {p : Program} {l : Launch} {e : Env} {s s0 : State} {m : MethodId} {below : List Frame} {meth : Method} {c : Code} {D : va_G} {cI cZ cC cJ cA : ClassId} {P : Nat → Nat} {lo : Nat} {fo : Nat → Int64} {f : Int32} (hx : p.tables.exec = Jvm.exec) (hb : c.code = cL_fetch) (hml : c.maxLocals = 4) (hr : meth.sig.returnType = some .int) (hlk : meth.locks = false) (hgt : ∀ w ∈ GT, w.before ([.ref (P 0), .int f, .ref lo] : List Value).toArray s = true) (hown : s.vm.findClass RL = some m.cls) (hK : va_K D vwCl [(cI, .int), (cZ, .boolean), (cC, .char), (cJ, .long), (cA, .array .int)] s) (hO : Old s0 s) (hAO : ∀ q, aP P 77 q → s0.heap.size ≤ q) (hlo : s0.heap.size ≤ lo) (hxo : ¬ aP P 77 lo) (M M' : Mm) (r' : Int32) (hq : q_ChipMap_fetch M f = some (M', r')) (hP : va_P D vwCl (wX cI cZ cC cJ cA P M) s.heap) (hPo : va_P D vwCl [(lo, .inl (cJ, 1, .inr (.inl fo)))] s.heap) (hD : va_D (aP P 77) (wX cI cZ cC cJ cA P M)) : W p l e { frames := 7, cells := 1, slots := 6, locals := 160 } s m ([.ref (P 0), .int f, .ref lo] : List Value).toArray below meth c s.heap [] 0 0 (MQ below (hQ D cJ (wX cI cZ cC cJ cA P M') lo (fun k f => k = 0 ∧ f 0 = (r' : Int32).toInt64) (hA P lo s.heap.size)) ([.ref (P 0), .int f, .ref lo] : List Value).toArray s 1 6 (hA P lo s.heap.size)) (entryFrame m ([.ref (P 0), .int f, .ref lo] : List Value).toArray 4) := by
  have hBO : ∀ q, hA P lo s.heap.size q → s0.heap.size ≤ q := fun q h => h.elim (hAO q) (fun h => h.elim (fun h => h ▸ hlo) (fun h => Nat.le_trans hO.2.1 h))
  have hS : va_S (hA P lo s.heap.size) s.heap s.heap [] := va_S.rf
  have hl := lv_entry ([.ref (P 0), .int f, .ref lo]) (n := 4) (Nat.le_of_ble_eq_true rfl)
  rw [lg_entry_eq]
  generalize (lg_sl ([.ref (P 0), .int f, .ref lo]) ++ List.replicate (4 - (lg_sl ([.ref (P 0), .int f, .ref lo])).length) Slot.unset).toArray = ls at hl ⊢
  have hl : lv_has ls 4 [(0, .ref (P 0)), (1, .int f), (2, .ref lo)] := hl
  refine lv_aload_n hx hb dL_fetch_0 rfl (lv_at hl 2 rfl) ?_
  refine lv_iconst (v := 0) hx hb dL_fetch_1 (by decide) ?_
  refine lv_aload_n hx hb dL_fetch_2 rfl (lv_at hl 0 rfl) ?_
  refine lv_iload_n hx hb dL_fetch_3 rfl (lv_at hl 1 rfl) ?_
  refine va_calli (va_runV (As := [.int f]) (rest := [.int 0, .ref lo]) ⟨hx, hb, hml, hown, hgt⟩ (z_ChipMap_fetch l D cI cZ cC cJ cA P s0 hAO M f M' r' hq) (cwV 1 hgt (gV wd_4_161 wd_4_162 wd_4_163 wd_0_1 wd_4_164) rfl rfl rfl (by decide +kernel) ⟨Nat.le_of_ble_eq_true rfl, Nat.le_of_ble_eq_true rfl⟩) (prL hP hK hD hO hBO hS (va_recv hK hP (ci := 0) (q0 := 0) rfl gX_0)) rfl rfl hl.1 rfl (lv_room (Nat.le_of_ble_eq_true rfl)) dL_fetch_4 ⟨Nat.le_of_ble_eq_true rfl, Nat.le_of_ble_eq_true rfl⟩) hS (fun q _ h => Or.inl h) (fun q h => Or.inl h) (fun r u t H1 locs1 ht _ hw hB _ hk hS => ?_)
  rw [ht] at hB
  have hPo1 : va_P D vwCl [(lo, .inl (cJ, 1, .inr (.inl fo)))] H1 := hPo.kept (fun k q hq => by
    have hl := (hPo k q hq).lt
    rw [one_w hq] at hl ⊢
    exact hk lo hl hxo)
  have hDo : va_D (hA P lo s.heap.size) [(lo, .inl (cJ, 1, .inr (.inl fo)))] := ⟨fun i j p q hi hj _ => by
    have hi := (List.getElem?_eq_some_iff.mp hi).1
    have hj := (List.getElem?_eq_some_iff.mp hj).1
    simp at hi hj
    omega, fun k q hq => by rw [one_w hq]; exact Or.inr (Or.inl rfl)⟩
  have hDD : va_D (hA P lo s.heap.size) ((wX cI cZ cC cJ cA P M') ++ [(lo, .inl (cJ, 1, .inr (.inl fo)))]) := va_D.app (hB.2.weaken (fun _ _ _ h => Or.inl h)) hDo (fun i j p q hi hj hpq => by
    have h1 := hB.2.2 i p hi
    rw [hpq, one_w hj] at h1
    exact hxo h1)
  refine lv_i2l (v := (r : Int32).toInt64) hx hb dL_fetch_7 rfl ?_
  refine va_last hx hb hK (hB.1.app hPo1) hDD hS 77 3 rfl rfl (by unfold vp_in; decide) dL_fetch_8 (fun H2 locs2 h1 h2 h3 => ?_)
  refine lv_goto hx hb dL_fetch_9 (tgt := 18) rfl ?_
  refine lv_iconst (v := 0) hx hb dL_fetch_18 (by decide) ?_
  refine W.widen (k := 1) (n := 6) (by decide) (by decide) ?_
  exact W.iret (v := 0) hx hb hr (fun t ht hW => ⟨⟨0, vp_updL fo (0 : Int32).toNatClampNeg (r : Int32).toInt64, rfl, ⟨rfl, by rw [← hw]; exact if_pos rfl⟩, by show va_P D vwCl (wX cI cZ cC cJ cA P M') t.heap ∧ va_P D vwCl [(lo, .inl (cJ, 1, .inr (.inl (vp_updL fo (0 : Int32).toNatClampNeg (r : Int32).toInt64))))] t.heap; rw [ht]; exact ⟨vP_l (w2 := [(lo, .inl (cJ, 1, .inr (.inl (vp_updL fo (0 : Int32).toNatClampNeg (r : Int32).toInt64))))]) h1, vP_r (w1 := (wX cI cZ cC cJ cA P M')) h1⟩⟩, h3.F ht⟩) h3.2.2 dL_fetch_19
set_option maxHeartbeats 4000000 in
set_option maxRecDepth 20000 in
theorem ht_fetch1 {p : Program} {l : Launch} {e : Env} {s s0 : State} {m : MethodId} {below : List Frame} {meth : Method} {c : Code} {D : va_G} {cI cZ cC cJ cA : ClassId} {P : Nat → Nat} {lo : Nat} {fo : Nat → Int64} {f : Int32} (hx : p.tables.exec = Jvm.exec) (hb : c.code = cL_fetch) (hml : c.maxLocals = 4) (hr : meth.sig.returnType = some .int) (hlk : meth.locks = false) (hgt : ∀ w ∈ GT, w.before ([.ref (P 0), .int f, .ref lo] : List Value).toArray s = true) (hown : s.vm.findClass RL = some m.cls) (hK : va_K D vwCl [(cI, .int), (cZ, .boolean), (cC, .char), (cJ, .long), (cA, .array .int)] s) (hO : Old s0 s) (hAO : ∀ q, aP P 77 q → s0.heap.size ≤ q) (hlo : s0.heap.size ≤ lo) (hxo : ¬ aP P 77 lo) (M M' : Mm) (r' : Int32) {c1 c2 : ClassId} (hlt : l.stackTraces = false) (htab : c.exceptionTable.toList = tableOf [(0, 9, 12, 19), (0, 9, 15, 21)]) (hT1 : ThrF "java/lang/IndexOutOfBoundsException" s0) (hF1 : s0.vm.findClass "java/lang/IndexOutOfBoundsException" = some c1) (hT2 : ThrF "java/lang/IllegalStateException" s0) (hF2 : s0.vm.findClass "java/lang/IllegalStateException" = some c2) (hNc : va_Nc "java/lang/IllegalStateException" "java/lang/IndexOutOfBoundsException" s0) (hq : qt_ChipMap_fetch M f = some (M', 1)) (hP : va_P D vwCl (wX cI cZ cC cJ cA P M) s.heap) (hPo : va_P D vwCl [(lo, .inl (cJ, 1, .inr (.inl fo)))] s.heap) (hD : va_D (aP P 77) (wX cI cZ cC cJ cA P M)) : W p l e { frames := 7, cells := 1, slots := 6, locals := 160 } s m ([.ref (P 0), .int f, .ref lo] : List Value).toArray below meth c s.heap [] 0 0 (MQ below (hQ D cJ (wX cI cZ cC cJ cA P M') lo (fun k _ => k = 1) (hA P lo s.heap.size)) ([.ref (P 0), .int f, .ref lo] : List Value).toArray s 1 6 (hA P lo s.heap.size)) (entryFrame m ([.ref (P 0), .int f, .ref lo] : List Value).toArray 4) := by
  have hBO : ∀ q, hA P lo s.heap.size q → s0.heap.size ≤ q := fun q h => h.elim (hAO q) (fun h => h.elim (fun h => h ▸ hlo) (fun h => Nat.le_trans hO.2.1 h))
  have hS : va_S (hA P lo s.heap.size) s.heap s.heap [] := va_S.rf
  have hl := lv_entry ([.ref (P 0), .int f, .ref lo]) (n := 4) (Nat.le_of_ble_eq_true rfl)
  rw [lg_entry_eq]
  generalize (lg_sl ([.ref (P 0), .int f, .ref lo]) ++ List.replicate (4 - (lg_sl ([.ref (P 0), .int f, .ref lo])).length) Slot.unset).toArray = ls at hl ⊢
  have hl : lv_has ls 4 [(0, .ref (P 0)), (1, .int f), (2, .ref lo)] := hl
  refine lv_aload_n hx hb dL_fetch_0 rfl (lv_at hl 2 rfl) ?_
  refine lv_iconst (v := 0) hx hb dL_fetch_1 (by decide) ?_
  refine lv_aload_n hx hb dL_fetch_2 rfl (lv_at hl 0 rfl) ?_
  refine lv_iload_n hx hb dL_fetch_3 rfl (lv_at hl 1 rfl) ?_
  refine in_VT2 (R' := { frames := 6, cells := 1, slots := 6, locals := 139 }) (own := "ChipMapLaw") (C := "ChipMap") (y := yX0_fetch) (hpc := 12) (mc := 1) (ms := 6) (Qt := fun q Hh => qT D c1 c2 (wX cI cZ cC cJ cA P M') 1 q Hh) (free := aP P 77) (b := P 0) (As := [.int f]) (rest := [.int 0, .ref lo]) hx hb hml hown (hgt _ wd_4_161) (hgt _ wd_4_162) (hgt _ wd_4_163) (hgt _ wd_4_164) (by decide) (by decide +kernel) (fun sig h => by cases h; rfl) (va_recv hK hP (ci := 0) (q0 := 0) rfl gX_0) rfl hl.1 rfl (lv_room (Nat.le_of_ble_eq_true rfl)) dL_fetch_4 ⟨by decide, by decide⟩ ⟨by decide, by decide, rfl, rfl⟩ (fun s' mk methk ck bel hH hW hfc hcb hcl hce hck => ?_) (fun T q l1 n1 n2 X hq => ?_) (fun q H1 L hL hz hk hq => ?_)
  · have hB := t_ChipMap_fetch (p := p) (l := l) (e := e) (s := s') (m := mk) (below := bel) (meth := methk) (c := ck) hx hcb hcl hck (fun w h => word_at hW (gt_g h).2 (hgt w h)) hfc (va_K.moved hW.alike hK) (Old.step hO (fun q (h : False) => h.elim) (va_S.rf (H0 := s.heap)) hH hW) hAO hlt hce hT1 hF1 hT2 hF2 M M' 1 hq (by rw [hH]; exact hP) hD
    rw [hH] at hB
    exact hB
  · obtain ⟨⟨ce, h1, h2, h3⟩, -⟩ := hq
    exact ct_cold X (g := F0 m 4 ls [.int 0, .ref lo]) rfl htab rfl (by decide) hown (name := "java/lang/IndexOutOfBoundsException") (hgt _ wd_4_159) (by rw [hO.1.alike.findClass]; exact hF1) h1 h2 h3
  · refine W.eq (g2 := F0 m 12 ls [.ref q]) rfl ?_
    refine lv_astore_n hx hb dL_fetch_12 rfl hl (Nat.le_of_ble_eq_true rfl) (lv' := (3, .ref q) :: [(0, .ref (P 0)), (1, .int f), (2, .ref lo)]) rfl (fun ls hl => ?_)
    refine lv_iconst (v := 1) hx hb dL_fetch_13 (by decide) ?_
    refine W.widen (k := 1) (n := 6) (by decide) (by decide) ?_
    have hPo1 : va_P D vwCl [(lo, .inl (cJ, 1, .inr (.inl fo)))] H1 := hPo.kept (fun k q hq => by
      have hl := (hPo k q hq).lt
      rw [one_w hq] at hl ⊢
      exact hk lo hl (fun x hx e => hxo (e ▸ hL x hx)))
    exact W.iret (v := 1) hx hb hr (fun t ht hW => ⟨⟨1, fo, rfl, rfl, by show va_P D vwCl (wX cI cZ cC cJ cA P M') t.heap ∧ va_P D vwCl [(lo, .inl (cJ, 1, .inr (.inl fo)))] t.heap; rw [ht]; exact ⟨hq.2, hPo1⟩⟩, by rw [ht]; exact hz, fun z h1 h2 => by rw [ht]; exact hk z h1 (fun x hx e => h2 (e ▸ Or.inl (hL x hx)))⟩) (fun x hx => Or.inl (hL x (by simpa using hx))) dL_fetch_14
set_option maxHeartbeats 4000000 in
set_option maxRecDepth 20000 in
theorem ht_fetch2 {p : Program} {l : Launch} {e : Env} {s s0 : State} {m : MethodId} {below : List Frame} {meth : Method} {c : Code} {D : va_G} {cI cZ cC cJ cA : ClassId} {P : Nat → Nat} {lo : Nat} {fo : Nat → Int64} {f : Int32} (hx : p.tables.exec = Jvm.exec) (hb : c.code = cL_fetch) (hml : c.maxLocals = 4) (hr : meth.sig.returnType = some .int) (hlk : meth.locks = false) (hgt : ∀ w ∈ GT, w.before ([.ref (P 0), .int f, .ref lo] : List Value).toArray s = true) (hown : s.vm.findClass RL = some m.cls) (hK : va_K D vwCl [(cI, .int), (cZ, .boolean), (cC, .char), (cJ, .long), (cA, .array .int)] s) (hO : Old s0 s) (hAO : ∀ q, aP P 77 q → s0.heap.size ≤ q) (hlo : s0.heap.size ≤ lo) (hxo : ¬ aP P 77 lo) (M M' : Mm) (r' : Int32) {c1 c2 : ClassId} (hlt : l.stackTraces = false) (htab : c.exceptionTable.toList = tableOf [(0, 9, 12, 19), (0, 9, 15, 21)]) (hT1 : ThrF "java/lang/IndexOutOfBoundsException" s0) (hF1 : s0.vm.findClass "java/lang/IndexOutOfBoundsException" = some c1) (hT2 : ThrF "java/lang/IllegalStateException" s0) (hF2 : s0.vm.findClass "java/lang/IllegalStateException" = some c2) (hNc : va_Nc "java/lang/IllegalStateException" "java/lang/IndexOutOfBoundsException" s0) (hq : qt_ChipMap_fetch M f = some (M', 2)) (hP : va_P D vwCl (wX cI cZ cC cJ cA P M) s.heap) (hPo : va_P D vwCl [(lo, .inl (cJ, 1, .inr (.inl fo)))] s.heap) (hD : va_D (aP P 77) (wX cI cZ cC cJ cA P M)) : W p l e { frames := 7, cells := 1, slots := 6, locals := 160 } s m ([.ref (P 0), .int f, .ref lo] : List Value).toArray below meth c s.heap [] 0 0 (MQ below (hQ D cJ (wX cI cZ cC cJ cA P M') lo (fun k _ => k = 2) (hA P lo s.heap.size)) ([.ref (P 0), .int f, .ref lo] : List Value).toArray s 1 6 (hA P lo s.heap.size)) (entryFrame m ([.ref (P 0), .int f, .ref lo] : List Value).toArray 4) := by
  have hBO : ∀ q, hA P lo s.heap.size q → s0.heap.size ≤ q := fun q h => h.elim (hAO q) (fun h => h.elim (fun h => h ▸ hlo) (fun h => Nat.le_trans hO.2.1 h))
  have hS : va_S (hA P lo s.heap.size) s.heap s.heap [] := va_S.rf
  have hl := lv_entry ([.ref (P 0), .int f, .ref lo]) (n := 4) (Nat.le_of_ble_eq_true rfl)
  rw [lg_entry_eq]
  generalize (lg_sl ([.ref (P 0), .int f, .ref lo]) ++ List.replicate (4 - (lg_sl ([.ref (P 0), .int f, .ref lo])).length) Slot.unset).toArray = ls at hl ⊢
  have hl : lv_has ls 4 [(0, .ref (P 0)), (1, .int f), (2, .ref lo)] := hl
  refine lv_aload_n hx hb dL_fetch_0 rfl (lv_at hl 2 rfl) ?_
  refine lv_iconst (v := 0) hx hb dL_fetch_1 (by decide) ?_
  refine lv_aload_n hx hb dL_fetch_2 rfl (lv_at hl 0 rfl) ?_
  refine lv_iload_n hx hb dL_fetch_3 rfl (lv_at hl 1 rfl) ?_
  refine in_VT2 (R' := { frames := 6, cells := 1, slots := 6, locals := 139 }) (own := "ChipMapLaw") (C := "ChipMap") (y := yX0_fetch) (hpc := 15) (mc := 1) (ms := 6) (Qt := fun q Hh => qT D c1 c2 (wX cI cZ cC cJ cA P M') 2 q Hh) (free := aP P 77) (b := P 0) (As := [.int f]) (rest := [.int 0, .ref lo]) hx hb hml hown (hgt _ wd_4_161) (hgt _ wd_4_162) (hgt _ wd_4_163) (hgt _ wd_4_164) (by decide) (by decide +kernel) (fun sig h => by cases h; rfl) (va_recv hK hP (ci := 0) (q0 := 0) rfl gX_0) rfl hl.1 rfl (lv_room (Nat.le_of_ble_eq_true rfl)) dL_fetch_4 ⟨by decide, by decide⟩ ⟨by decide, by decide, rfl, rfl⟩ (fun s' mk methk ck bel hH hW hfc hcb hcl hce hck => ?_) (fun T q l1 n1 n2 X hq => ?_) (fun q H1 L hL hz hk hq => ?_)
  · have hB := t_ChipMap_fetch (p := p) (l := l) (e := e) (s := s') (m := mk) (below := bel) (meth := methk) (c := ck) hx hcb hcl hck (fun w h => word_at hW (gt_g h).2 (hgt w h)) hfc (va_K.moved hW.alike hK) (Old.step hO (fun q (h : False) => h.elim) (va_S.rf (H0 := s.heap)) hH hW) hAO hlt hce hT1 hF1 hT2 hF2 M M' 2 hq (by rw [hH]; exact hP) hD
    rw [hH] at hB
    exact hB
  · obtain ⟨⟨ce, h1, h2, h3⟩, -⟩ := hq
    exact ct_cold2 X (g := F0 m 4 ls [.int 0, .ref lo]) rfl htab rfl rfl (by decide) (by decide) hown (name1 := "java/lang/IndexOutOfBoundsException") (name := "java/lang/IllegalStateException") (hgt _ wd_4_159) (hgt _ wd_4_160) (by rw [hO.1.alike.findClass]; exact hF2) (hNc.moved hO.1.alike) h1 h2 h3
  · refine W.eq (g2 := F0 m 15 ls [.ref q]) rfl ?_
    refine lv_astore_n hx hb dL_fetch_15 rfl hl (Nat.le_of_ble_eq_true rfl) (lv' := (3, .ref q) :: [(0, .ref (P 0)), (1, .int f), (2, .ref lo)]) rfl (fun ls hl => ?_)
    refine lv_iconst (v := 2) hx hb dL_fetch_16 (by decide) ?_
    refine W.widen (k := 1) (n := 6) (by decide) (by decide) ?_
    have hPo1 : va_P D vwCl [(lo, .inl (cJ, 1, .inr (.inl fo)))] H1 := hPo.kept (fun k q hq => by
      have hl := (hPo k q hq).lt
      rw [one_w hq] at hl ⊢
      exact hk lo hl (fun x hx e => hxo (e ▸ hL x hx)))
    exact W.iret (v := 2) hx hb hr (fun t ht hW => ⟨⟨2, fo, rfl, rfl, by show va_P D vwCl (wX cI cZ cC cJ cA P M') t.heap ∧ va_P D vwCl [(lo, .inl (cJ, 1, .inr (.inl fo)))] t.heap; rw [ht]; exact ⟨hq.2, hPo1⟩⟩, by rw [ht]; exact hz, fun z h1 h2 => by rw [ht]; exact hk z h1 (fun x hx e => h2 (e ▸ Or.inl (hL x hx)))⟩) (fun x hx => Or.inl (hL x (by simpa using hx))) dL_fetch_17
