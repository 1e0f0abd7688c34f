def q_ChipMap_hasMap  (M : Mm)  : Rs := if (M.1 24 0) ≤ 0 then (some (M, 0)) else (some (M, 1))
set_option maxHeartbeats 4000000 in
set_option maxRecDepth 20000 in
theorem b_ChipMap_hasMap_0 {p : Program} {l : Launch} {e : Env} {s s0 : State} {m : MethodId} {args : Array Value} {below : List Frame} {meth : Method} {c : Code} {D : va_G} {cI cZ cC cJ cA : ClassId} {P : Nat → Nat} {M' : Mm} {r' : Int32}  (hx : p.tables.exec = Jvm.exec) (hb : c.code = cX0_hasMap) (hml : c.maxLocals = 1) (hr : meth.sig.returnType = (some .boolean)) (hlk : meth.locks = false) (hgt : ∀ w ∈ GT, w.before args s = true) (hown : s.vm.findClass RX0 = some m.cls) (hK : va_K D vwCl [(cI, .int), (cZ, .boolean), (cC, .char), (cJ, .long), (cA, .array .int)] s) (hO : Old s0 s) (hAO : ∀ q, (aP P 77) q → s0.heap.size ≤ q)  : ∀ (M : Mm)  (H : Heap) (locs : List Loc) (ls : Array Slot), lv_has ls 1 [(0, .ref (P 0))] → va_P D vwCl ((wX cI cZ cC cJ cA P) M) H → va_D (aP P 77) ((wX cI cZ cC cJ cA P) M) → va_S (aP P 77) s.heap H locs → q_ChipMap_hasMap M = some (M', r') → W p l e ({ frames := 0, cells := 0, slots := 0, locals := 0 }) s m args below meth c H locs 0 0 (MQ below (gQi D (aP P 77) ((wX cI cZ cC cJ cA P) M') r') args s 0 0 (aP P 77)) (F0 m 0 ls []) := by
  intro M H locs ls hl hP hD hS h
  unfold q_ChipMap_hasMap at h
  refine lv_aload_n hx hb dX0_hasMap_0 rfl (lv_at hl 0 rfl) ?_
  refine va_get (D := D) (ci := 0) (v := .ref (P 24)) (C := RX0) (T := TX0) (N := 9) hx hb hgt iwX0 hown hK hP 0 gX_0 rfl 3 (Nat.le_of_ble_eq_true rfl) (hgt _ wd_2_20) (fun _ h9 => h9) rfl dX0_hasMap_1 ?_
  refine va_get (D := D) (ci := 6) (v := .int (M.1 24 0)) (C := RX6) (T := TX6) (N := 13) hx hb hgt iwX6 hown hK hP 24 gX_24 rfl 0 (Nat.le_of_ble_eq_true rfl) (hgt _ wd_1_6) (fun _ h9 => h9) rfl dX0_hasMap_4 ?_
  refine lv_if_le hx hb dX0_hasMap_7 (tgt := 14) rfl (fun hc => ?_) (fun hc => ?_)
  · have h := br_T hc h
    refine lv_iconst (v := 0) hx hb dX0_hasMap_14 (by decide) ?_
    exact rt_z (w := (wX cI cZ cC cJ cA P)) hx hb hr hlk rfl hP hD hS h dX0_hasMap_15
  · have h := br_F hc h
    refine lv_iconst (v := 1) hx hb dX0_hasMap_10 (by decide) ?_
    refine lv_goto hx hb dX0_hasMap_11 (tgt := 15) rfl ?_
    exact rt_z (w := (wX cI cZ cC cJ cA P)) hx hb hr hlk rfl hP hD hS h dX0_hasMap_15
set_option maxHeartbeats 4000000 in
set_option maxRecDepth 20000 in
theorem z_ChipMap_hasMap (l : Launch) (D : va_G) (cI cZ cC cJ cA : ClassId) (P : Nat → Nat) (s0 : State) (hAO : ∀ q, (aP P 77) q → s0.heap.size ≤ q) (M : Mm)  (M' : Mm) (r' : Int32) (h : q_ChipMap_hasMap M = some (M', r')) : Met l yX0_hasMap wsX0_hasMap ({ frames := 0, cells := 0, slots := 0, locals := 0 }) (va_Pc [.ref (P 0)] (gPre s0 D [(cI, .int), (cZ, .boolean), (cC, .char), (cJ, .long), (cA, .array .int)] (aP P 77) ((wX cI cZ cC cJ cA P) M))) (gQi D (aP P 77) ((wX cI cZ cC cJ cA P) M') r') 0 0 (aP P 77) := by
  refine Met.ofW (cc := cX0_hasMap) (maxL := 1) (ret := (some .boolean)) (by decide) rfl ?_
  intro p e s m args below meth c s₁ B hml hv
  obtain ⟨rfl, hP, hK, hD, hO⟩ := hv
  have hx := B.exec
  have hb := B.bytes
  have hr := B.returns
  have hlk := B.notSynchronized
  have hgt := fun w (h : w ∈ GT) => atoms_spec (ws := wsX0_hasMap) B.pre w (List.mem_cons_of_mem _ h)
  have hown : s.vm.findClass RX0 = some m.cls := findClass_of_methodNamed B.named
  have hS : va_S (aP P 77) s.heap s.heap [] := va_S.rf
  have hl := lv_entry ([.ref (P 0)]) (n := 1) (Nat.le_of_ble_eq_true rfl)
  rw [lg_entry_eq]
  generalize (lg_sl ([.ref (P 0)]) ++ List.replicate (1 - (lg_sl ([.ref (P 0)])).length) Slot.unset).toArray = ls at hl ⊢
  have hl : lv_has ls 1 [(0, .ref (P 0))] := hl
  exact b_ChipMap_hasMap_0 hx hb hml hr hlk hgt hown hK hO hAO M s.heap [] ls hl hP hD hS h
def q_ChipMap_reset  (M : Mm)  : Rs := cal (q_ChipMap_hasMap M) fun M1 r2 => if r2 = 0 then (some (M1, 0)) else (cal (q_ChipMap_startAgain M1) fun M3 r4 => some (M3, 1))
set_option maxHeartbeats 4000000 in
set_option maxRecDepth 20000 in
theorem b_ChipMap_reset_0 {p : Program} {l : Launch} {e : Env} {s s0 : State} {m : MethodId} {args : Array Value} {below : List Frame} {meth : Method} {c : Code} {D : va_G} {cI cZ cC cJ cA : ClassId} {P : Nat → Nat} {M' : Mm} {r' : Int32}  (hx : p.tables.exec = Jvm.exec) (hb : c.code = cX0_reset) (hml : c.maxLocals = 1) (hr : meth.sig.returnType = (some .boolean)) (hlk : meth.locks = false) (hgt : ∀ w ∈ GT, w.before args s = true) (hown : s.vm.findClass RX0 = some m.cls) (hK : va_K D vwCl [(cI, .int), (cZ, .boolean), (cC, .char), (cJ, .long), (cA, .array .int)] s) (hO : Old s0 s) (hAO : ∀ q, (aP P 77) q → s0.heap.size ≤ q)  : ∀ (M : Mm)  (H : Heap) (locs : List Loc) (ls : Array Slot), lv_has ls 1 [(0, .ref (P 0))] → va_P D vwCl ((wX cI cZ cC cJ cA P) M) H → va_D (aP P 77) ((wX cI cZ cC cJ cA P) M) → va_S (aP P 77) s.heap H locs → q_ChipMap_reset M = some (M', r') → W p l e ({ frames := 3, cells := 0, slots := 0, locals := 64 }) s m args below meth c H locs 0 0 (MQ below (gQi D (aP P 77) ((wX cI cZ cC cJ cA P) M') r') args s 0 0 (aP P 77)) (F0 m 0 ls []) := by
  intro M H locs ls hl hP hD hS h
  unfold q_ChipMap_reset at h
  refine lv_aload_n hx hb dX0_reset_0 rfl (lv_at hl 0 rfl) ?_
  obtain ⟨M1, r2, hq, h⟩ := cal_o h
  refine cx_i (va_runV (As := []) (rest := []) ⟨hx, hb, hml, hown, hgt⟩ (z_ChipMap_hasMap l D cI cZ cC cJ cA P s0 hAO M M1 r2 hq) (cwV 0 hgt (gV wd_2_81 wd_2_83 sl__ChipMap____ChipMap___hasMap_____Z_____ChipMap___hasMap_____Z__ wd_0_1 wd_2_84) rfl rfl rfl (by decide +kernel) ⟨Nat.le_of_ble_eq_true rfl, Nat.le_of_ble_eq_true rfl⟩) (prV hP hK hD hO hAO hS (va_recv hK hP (ci := 0) (q0 := 0) rfl gX_0)) rfl rfl hl.1 rfl (lv_room (Nat.le_of_ble_eq_true rfl)) dX0_reset_1 ⟨Nat.le_of_ble_eq_true rfl, Nat.le_of_ble_eq_true rfl⟩) hS (fun H locs hP hD hS => ?_)
  refine lv_if_ne hx hb dX0_reset_4 (tgt := 9) rfl (fun hc => ?_) (fun hc => ?_)
  · have h := br_F hc h
    refine lv_aload_n hx hb dX0_reset_9 rfl (lv_at hl 0 rfl) ?_
    obtain ⟨M3, r4, hq, h⟩ := cal_o h
    refine cx_v (va_runV (As := []) (rest := []) ⟨hx, hb, hml, hown, hgt⟩ (z_ChipMap_startAgain l D cI cZ cC cJ cA P s0 hAO M1 M3 r4 hq) (cwV 0 hgt (gV wd_2_85 wd_2_87 sl__ChipMap____ChipMap___startAgain_____V_____ChipMap___startAgain_____V__ wd_0_1 wd_2_88) rfl rfl rfl (by decide +kernel) ⟨Nat.le_of_ble_eq_true rfl, Nat.le_of_ble_eq_true rfl⟩) (prV hP hK hD hO hAO hS (va_recv hK hP (ci := 0) (q0 := 0) rfl gX_0)) rfl rfl hl.1 rfl (lv_room (Nat.le_of_ble_eq_true rfl)) dX0_reset_10 ⟨Nat.le_of_ble_eq_true rfl, Nat.le_of_ble_eq_true rfl⟩) hS (fun H locs hP hD hS => ?_)
    refine lv_iconst (v := 1) hx hb dX0_reset_13 (by decide) ?_
    exact rt_z (w := (wX cI cZ cC cJ cA P)) hx hb hr hlk rfl hP hD hS h dX0_reset_14
  · have h := br_T hc h
    refine lv_iconst (v := 0) hx hb dX0_reset_7 (by decide) ?_
    exact rt_z (w := (wX cI cZ cC cJ cA P)) hx hb hr hlk rfl hP hD hS h dX0_reset_8
set_option maxHeartbeats 4000000 in
set_option maxRecDepth 20000 in
theorem z_ChipMap_reset (l : Launch) (D : va_G) (cI cZ cC cJ cA : ClassId) (P : Nat → Nat) (s0 : State) (hAO : ∀ q, (aP P 77) q → s0.heap.size ≤ q) (M : Mm)  (M' : Mm) (r' : Int32) (h : q_ChipMap_reset M = some (M', r')) : Met l yX0_reset wsX0_reset ({ frames := 3, cells := 0, slots := 0, locals := 64 }) (va_Pc [.ref (P 0)] (gPre s0 D [(cI, .int), (cZ, .boolean), (cC, .char), (cJ, .long), (cA, .array .int)] (aP P 77) ((wX cI cZ cC cJ cA P) M))) (gQi D (aP P 77) ((wX cI cZ cC cJ cA P) M') r') 0 0 (aP P 77) := by
  refine Met.ofW (cc := cX0_reset) (maxL := 1) (ret := (some .boolean)) (by decide) rfl ?_
  intro p e s m args below meth c s₁ B hml hv
  obtain ⟨rfl, hP, hK, hD, hO⟩ := hv
  have hx := B.exec
  have hb := B.bytes
  have hr := B.returns
  have hlk := B.notSynchronized
  have hgt := fun w (h : w ∈ GT) => atoms_spec (ws := wsX0_reset) B.pre w (List.mem_cons_of_mem _ h)
  have hown : s.vm.findClass RX0 = some m.cls := findClass_of_methodNamed B.named
  have hS : va_S (aP P 77) s.heap s.heap [] := va_S.rf
  have hl := lv_entry ([.ref (P 0)]) (n := 1) (Nat.le_of_ble_eq_true rfl)
  rw [lg_entry_eq]
  generalize (lg_sl ([.ref (P 0)]) ++ List.replicate (1 - (lg_sl ([.ref (P 0)])).length) Slot.unset).toArray = ls at hl ⊢
  have hl : lv_has ls 1 [(0, .ref (P 0))] := hl
  exact b_ChipMap_reset_0 hx hb hml hr hlk hgt hown hK hO hAO M s.heap [] ls hl hP hD hS h
def q_Mind_knownValue  (M : Mm) (a1 : Int32) : Rs := ix a1 26 <| ix (M.1 38 (a1 : Int32).toNatClampNeg) 16 <| ix a1 26 <| ix a1 26 <| some (M, ((((M.1 52 ((M.1 38 (a1 : Int32).toNatClampNeg) : Int32).toNatClampNeg) &&& (M.1 42 (a1 : Int32).toNatClampNeg)) : Int32) >>> ((M.1 40 (a1 : Int32).toNatClampNeg) &&& 31)))
set_option maxHeartbeats 4000000 in
set_option maxRecDepth 20000 in
theorem b_Mind_knownValue_0 {p : Program} {l : Launch} {e : Env} {s s0 : State} {m : MethodId} {args : Array Value} {below : List Frame} {meth : Method} {c : Code} {D : va_G} {cI cZ cC cJ cA : ClassId} {P : Nat → Nat} {M' : Mm} {r' : Int32}  (hx : p.tables.exec = Jvm.exec) (hb : c.code = cX8_knownValue) (hml : c.maxLocals = 2) (hr : meth.sig.returnType = (some .int)) (hlk : meth.locks = false) (hgt : ∀ w ∈ GT, w.before args s = true) (hown : s.vm.findClass RX8 = some m.cls) (hK : va_K D vwCl [(cI, .int), (cZ, .boolean), (cC, .char), (cJ, .long), (cA, .array .int)] s) (hO : Old s0 s) (hAO : ∀ q, (aP P 77) q → s0.heap.size ≤ q)  : ∀ (M : Mm) (a1 : Int32) (H : Heap) (locs : List Loc) (ls : Array Slot), lv_has ls 2 [(0, .ref (P 51)), (1, .int a1)] → va_P D vwCl ((wX cI cZ cC cJ cA P) M) H → va_D (aP P 77) ((wX cI cZ cC cJ cA P) M) → va_S (aP P 77) s.heap H locs → q_Mind_knownValue M a1 = some (M', r') → W p l e ({ frames := 0, cells := 0, slots := 0, locals := 0 }) s m args below meth c H locs 0 0 (MQ below (gQi D (aP P 77) ((wX cI cZ cC cJ cA P) M') r') args s 0 0 (aP P 77)) (F0 m 0 ls []) := by
  intro M a1 H locs ls hl hP hD hS h
  unfold q_Mind_knownValue at h
  refine lv_aload_n hx hb dX8_knownValue_0 rfl (lv_at hl 0 rfl) ?_
  refine va_get (D := D) (ci := 8) (v := .ref (P 52)) (C := RX8) (T := TX8) (N := 3) hx hb hgt iwX8 hown hK hP 51 gX_51 rfl 1 (Nat.le_of_ble_eq_true rfl) (hgt _ wd_1_113) (fun _ h9 => h9) rfl dX8_knownValue_1 ?_
  refine lv_aload_n hx hb dX8_knownValue_4 rfl (lv_at hl 0 rfl) ?_
  refine va_get (D := D) (ci := 8) (v := .ref (P 24)) (C := RX8) (T := TX8) (N := 3) hx hb hgt iwX8 hown hK hP 51 gX_51 rfl 0 (Nat.le_of_ble_eq_true rfl) (hgt _ wd_1_112) (fun _ h9 => h9) rfl dX8_knownValue_5 ?_
  refine va_get (D := D) (ci := 6) (v := .ref (P 38)) (C := RX6) (T := TX6) (N := 13) hx hb hgt iwX6 hown hK hP 24 gX_24 rfl 7 (Nat.le_of_ble_eq_true rfl) (hgt _ wd_1_28) (fun _ h9 => h9) rfl dX8_knownValue_8 ?_
  refine lv_iload_n hx hb dX8_knownValue_11 rfl (lv_at hl 1 rfl) ?_
  refine va_iald hx hb hK hP 38 0 gX_38 rfl (ix_l h) dX8_knownValue_12 ?_
  have h := ix_r h
  refine va_iald hx hb hK hP 52 0 gX_52 rfl (ix_l h) dX8_knownValue_13 ?_
  have h := ix_r h
  refine lv_aload_n hx hb dX8_knownValue_14 rfl (lv_at hl 0 rfl) ?_
  refine va_get (D := D) (ci := 8) (v := .ref (P 24)) (C := RX8) (T := TX8) (N := 3) hx hb hgt iwX8 hown hK hP 51 gX_51 rfl 0 (Nat.le_of_ble_eq_true rfl) (hgt _ wd_1_112) (fun _ h9 => h9) rfl dX8_knownValue_15 ?_
  refine va_get (D := D) (ci := 6) (v := .ref (P 42)) (C := RX6) (T := TX6) (N := 13) hx hb hgt iwX6 hown hK hP 24 gX_24 rfl 11 (Nat.le_of_ble_eq_true rfl) (hgt _ wd_1_43) (fun _ h9 => h9) rfl dX8_knownValue_18 ?_
  refine lv_iload_n hx hb dX8_knownValue_21 rfl (lv_at hl 1 rfl) ?_
  refine va_iald hx hb hK hP 42 0 gX_42 rfl (ix_l h) dX8_knownValue_22 ?_
  have h := ix_r h
  refine lv_iand hx hb dX8_knownValue_23 ?_
  refine lv_aload_n hx hb dX8_knownValue_24 rfl (lv_at hl 0 rfl) ?_
  refine va_get (D := D) (ci := 8) (v := .ref (P 24)) (C := RX8) (T := TX8) (N := 3) hx hb hgt iwX8 hown hK hP 51 gX_51 rfl 0 (Nat.le_of_ble_eq_true rfl) (hgt _ wd_1_112) (fun _ h9 => h9) rfl dX8_knownValue_25 ?_
  refine va_get (D := D) (ci := 6) (v := .ref (P 40)) (C := RX6) (T := TX6) (N := 13) hx hb hgt iwX6 hown hK hP 24 gX_24 rfl 9 (Nat.le_of_ble_eq_true rfl) (hgt _ wd_1_36) (fun _ h9 => h9) rfl dX8_knownValue_28 ?_
  refine lv_iload_n hx hb dX8_knownValue_31 rfl (lv_at hl 1 rfl) ?_
  refine va_iald hx hb hK hP 40 0 gX_40 rfl (ix_l h) dX8_knownValue_32 ?_
  have h := ix_r h
  refine lv_ishr hx hb dX8_knownValue_33 ?_
  exact rt_i (w := (wX cI cZ cC cJ cA P)) hx hb hr hlk hP hD hS h dX8_knownValue_34
set_option maxHeartbeats 4000000 in
set_option maxRecDepth 20000 in
theorem z_Mind_knownValue (l : Launch) (D : va_G) (cI cZ cC cJ cA : ClassId) (P : Nat → Nat) (s0 : State) (hAO : ∀ q, (aP P 77) q → s0.heap.size ≤ q) (M : Mm) (a1 : Int32) (M' : Mm) (r' : Int32) (h : q_Mind_knownValue M a1 = some (M', r')) : Met l yX8_knownValue wsX8_knownValue ({ frames := 0, cells := 0, slots := 0, locals := 0 }) (va_Pc [.ref (P 51), .int a1] (gPre s0 D [(cI, .int), (cZ, .boolean), (cC, .char), (cJ, .long), (cA, .array .int)] (aP P 77) ((wX cI cZ cC cJ cA P) M))) (gQi D (aP P 77) ((wX cI cZ cC cJ cA P) M') r') 0 0 (aP P 77) := by
  refine Met.ofW (cc := cX8_knownValue) (maxL := 2) (ret := (some .int)) (by decide) rfl ?_
  intro p e s m args below meth c s₁ B hml hv
  obtain ⟨rfl, hP, hK, hD, hO⟩ := hv
  have hx := B.exec
  have hb := B.bytes
  have hr := B.returns
  have hlk := B.notSynchronized
  have hgt := fun w (h : w ∈ GT) => atoms_spec (ws := wsX8_knownValue) B.pre w (List.mem_cons_of_mem _ h)
  have hown : s.vm.findClass RX8 = some m.cls := findClass_of_methodNamed B.named
  have hS : va_S (aP P 77) s.heap s.heap [] := va_S.rf
  have hl := lv_entry ([.ref (P 51), .int a1]) (n := 2) (Nat.le_of_ble_eq_true rfl)
  rw [lg_entry_eq]
  generalize (lg_sl ([.ref (P 51), .int a1]) ++ List.replicate (2 - (lg_sl ([.ref (P 51), .int a1])).length) Slot.unset).toArray = ls at hl ⊢
  have hl : lv_has ls 2 [(0, .ref (P 51)), (1, .int a1)] := hl
  exact b_Mind_knownValue_0 hx hb hml hr hlk hgt hown hK hO hAO M a1 s.heap [] ls hl hP hD hS h
def q_Mind_isThere  (M : Mm) (a1 : Int32) : Rs := ix a1 16 <| lt' (M.1 26 (a1 : Int32).toNatClampNeg) fun x1 => if x1 = (-1) then (some (M, 1)) else (cal (q_Mind_knownValue M x1) fun M2 r3 => ix a1 16 <| if r3 = (M2.1 27 (a1 : Int32).toNatClampNeg) then (some (M2, 1)) else (some (M2, 0)))
set_option maxHeartbeats 4000000 in
set_option maxRecDepth 20000 in
theorem b_Mind_isThere_0 {p : Program} {l : Launch} {e : Env} {s s0 : State} {m : MethodId} {args : Array Value} {below : List Frame} {meth : Method} {c : Code} {D : va_G} {cI cZ cC cJ cA : ClassId} {P : Nat → Nat} {M' : Mm} {r' : Int32}  (hx : p.tables.exec = Jvm.exec) (hb : c.code = cX8_isThere) (hml : c.maxLocals = 3) (hr : meth.sig.returnType = (some .boolean)) (hlk : meth.locks = false) (hgt : ∀ w ∈ GT, w.before args s = true) (hown : s.vm.findClass RX8 = some m.cls) (hK : va_K D vwCl [(cI, .int), (cZ, .boolean), (cC, .char), (cJ, .long), (cA, .array .int)] s) (hO : Old s0 s) (hAO : ∀ q, (aP P 77) q → s0.heap.size ≤ q)  : ∀ (M : Mm) (a1 : Int32) (H : Heap) (locs : List Loc) (ls : Array Slot), lv_has ls 3 [(0, .ref (P 51)), (1, .int a1)] → va_P D vwCl ((wX cI cZ cC cJ cA P) M) H → va_D (aP P 77) ((wX cI cZ cC cJ cA P) M) → va_S (aP P 77) s.heap H locs → q_Mind_isThere M a1 = some (M', r') → W p l e ({ frames := 1, cells := 0, slots := 0, locals := 21 }) s m args below meth c H locs 0 0 (MQ below (gQi D (aP P 77) ((wX cI cZ cC cJ cA P) M') r') args s 0 0 (aP P 77)) (F0 m 0 ls []) := by
  intro M a1 H locs ls hl hP hD hS h
  unfold q_Mind_isThere at h
  refine lv_aload_n hx hb dX8_isThere_0 rfl (lv_at hl 0 rfl) ?_
  refine va_get (D := D) (ci := 8) (v := .ref (P 24)) (C := RX8) (T := TX8) (N := 3) hx hb hgt iwX8 hown hK hP 51 gX_51 rfl 0 (Nat.le_of_ble_eq_true rfl) (hgt _ wd_1_112) (fun _ h9 => h9) rfl dX8_isThere_1 ?_
  refine va_get (D := D) (ci := 6) (v := .ref (P 26)) (C := RX6) (T := TX6) (N := 13) hx hb hgt iwX6 hown hK hP 24 gX_24 rfl 2 (Nat.le_of_ble_eq_true rfl) (hgt _ wd_1_11) (fun _ h9 => h9) rfl dX8_isThere_4 ?_
  refine lv_iload_n hx hb dX8_isThere_7 rfl (lv_at hl 1 rfl) ?_
  refine va_iald hx hb hK hP 26 0 gX_26 rfl (ix_l h) dX8_isThere_8 ?_
  have h := ix_r h
  refine lv_topi (fun x1 ex1 => ?_)
  have h := lt_o ex1 h
  refine lv_istore_n hx hb dX8_isThere_9 rfl hl (Nat.le_of_ble_eq_true rfl) (lv' := [(2, .int x1), (0, .ref (P 51)), (1, .int a1)]) rfl (fun ls hl => ?_)
  refine lv_iload_n hx hb dX8_isThere_10 rfl (lv_at hl 0 rfl) ?_
  refine lv_iconst (v := (-1)) hx hb dX8_isThere_11 (by decide) ?_
  refine lv_icmp_eq hx hb dX8_isThere_12 (tgt := 32) rfl (fun hc => ?_) (fun hc => ?_)
  · have h := br_T hc h
    refine lv_iconst (v := 1) hx hb dX8_isThere_32 (by decide) ?_
    refine lv_goto hx hb dX8_isThere_33 (tgt := 37) rfl ?_
    exact rt_z (w := (wX cI cZ cC cJ cA P)) hx hb hr hlk rfl hP hD hS h dX8_isThere_37
  · have h := br_F hc h
    refine lv_aload_n hx hb dX8_isThere_15 rfl (lv_at hl 1 rfl) ?_
    refine lv_iload_n hx hb dX8_isThere_16 rfl (lv_at hl 0 rfl) ?_
    obtain ⟨M2, r3, hq, h⟩ := cal_o h
    refine cx_i (va_runV (As := [.int x1]) (rest := []) ⟨hx, hb, hml, hown, hgt⟩ (z_Mind_knownValue l D cI cZ cC cJ cA P s0 hAO M x1 M2 r3 hq) (cwV 1 hgt (gV wd_2_110 wd_2_111 wd_2_112 wd_0_11 wd_2_113) rfl rfl rfl (by decide +kernel) ⟨Nat.le_of_ble_eq_true rfl, Nat.le_of_ble_eq_true rfl⟩) (prV hP hK hD hO hAO hS (va_recv hK hP (ci := 8) (q0 := 51) rfl gX_51)) rfl rfl hl.1 rfl (lv_room (Nat.le_of_ble_eq_true rfl)) dX8_isThere_17 ⟨Nat.le_of_ble_eq_true rfl, Nat.le_of_ble_eq_true rfl⟩) hS (fun H locs hP hD hS => ?_)
    refine lv_aload_n hx hb dX8_isThere_20 rfl (lv_at hl 1 rfl) ?_
    refine va_get (D := D) (ci := 8) (v := .ref (P 24)) (C := RX8) (T := TX8) (N := 3) hx hb hgt iwX8 hown hK hP 51 gX_51 rfl 0 (Nat.le_of_ble_eq_true rfl) (hgt _ wd_1_112) (fun _ h9 => h9) rfl dX8_isThere_21 ?_
    refine va_get (D := D) (ci := 6) (v := .ref (P 27)) (C := RX6) (T := TX6) (N := 13) hx hb hgt iwX6 hown hK hP 24 gX_24 rfl 3 (Nat.le_of_ble_eq_true rfl) (hgt _ wd_1_14) (fun _ h9 => h9) rfl dX8_isThere_24 ?_
    refine lv_iload_n hx hb dX8_isThere_27 rfl (lv_at hl 2 rfl) ?_
    refine va_iald hx hb hK hP 27 0 gX_27 rfl (ix_l h) dX8_isThere_28 ?_
    have h := ix_r h
    refine lv_icmp_ne hx hb dX8_isThere_29 (tgt := 36) rfl (fun hc => ?_) (fun hc => ?_)
    · have h := br_F hc h
      refine lv_iconst (v := 0) hx hb dX8_isThere_36 (by decide) ?_
      exact rt_z (w := (wX cI cZ cC cJ cA P)) hx hb hr hlk rfl hP hD hS h dX8_isThere_37
    · have h := br_T hc h
      refine lv_iconst (v := 1) hx hb dX8_isThere_32 (by decide) ?_
      refine lv_goto hx hb dX8_isThere_33 (tgt := 37) rfl ?_
      exact rt_z (w := (wX cI cZ cC cJ cA P)) hx hb hr hlk rfl hP hD hS h dX8_isThere_37
set_option maxHeartbeats 4000000 in
set_option maxRecDepth 20000 in
theorem z_Mind_isThere (l : Launch) (D : va_G) (cI cZ cC cJ cA : ClassId) (P : Nat → Nat) (s0 : State) (hAO : ∀ q, (aP P 77) q → s0.heap.size ≤ q) (M : Mm) (a1 : Int32) (M' : Mm) (r' : Int32) (h : q_Mind_isThere M a1 = some (M', r')) : Met l yX8_isThere wsX8_isThere ({ frames := 1, cells := 0, slots := 0, locals := 21 }) (va_Pc [.ref (P 51), .int a1] (gPre s0 D [(cI, .int), (cZ, .boolean), (cC, .char), (cJ, .long), (cA, .array .int)] (aP P 77) ((wX cI cZ cC cJ cA P) M))) (gQi D (aP P 77) ((wX cI cZ cC cJ cA P) M') r') 0 0 (aP P 77) := by
  refine Met.ofW (cc := cX8_isThere) (maxL := 3) (ret := (some .boolean)) (by decide) rfl ?_
  intro p e s m args below meth c s₁ B hml hv
  obtain ⟨rfl, hP, hK, hD, hO⟩ := hv
  have hx := B.exec
  have hb := B.bytes
  have hr := B.returns
  have hlk := B.notSynchronized
  have hgt := fun w (h : w ∈ GT) => atoms_spec (ws := wsX8_isThere) B.pre w (List.mem_cons_of_mem _ h)
  have hown : s.vm.findClass RX8 = some m.cls := findClass_of_methodNamed B.named
  have hS : va_S (aP P 77) s.heap s.heap [] := va_S.rf
  have hl := lv_entry ([.ref (P 51), .int a1]) (n := 3) (Nat.le_of_ble_eq_true rfl)
  rw [lg_entry_eq]
  generalize (lg_sl ([.ref (P 51), .int a1]) ++ List.replicate (3 - (lg_sl ([.ref (P 51), .int a1])).length) Slot.unset).toArray = ls at hl ⊢
  have hl : lv_has ls 3 [(0, .ref (P 51)), (1, .int a1)] := hl
  exact b_Mind_isThere_0 hx hb hml hr hlk hgt hown hK hO hAO M a1 s.heap [] ls hl hP hD hS h
def q_Device_registerAt_39 (kf2 : Mm → Int32 → Int32 → Rs) (M : Mm) (v1 : Int32) (v2 : Int32) : Rs := kf2 M v1 (v2 + 1)
def q_Device_registerAt_2  : Nat → Mm → Int32 → Int32 → Rs
  | 0, _, _, _ => none
  | n' + 1, M, v1, v2 => if (M.1 24 0) ≤ v2 then (some (M, (-1))) else (ix v2 16 <| if (M.1 25 (v2 : Int32).toNatClampNeg) = v1 then (cal (q_Mind_isThere M v2) fun M1 r2 => if r2 = 0 then (q_Device_registerAt_39 (q_Device_registerAt_2 n') M1 v1 v2) else (some (M1, v2))) else (q_Device_registerAt_39 (q_Device_registerAt_2 n') M v1 v2))
def q_Device_registerAt  (M : Mm) (a1 : Int32) : Rs := q_Device_registerAt_2 4000 M a1 0
set_option maxHeartbeats 4000000 in
set_option maxRecDepth 20000 in
theorem b_Device_registerAt_39 {p : Program} {l : Launch} {e : Env} {s s0 : State} {m : MethodId} {args : Array Value} {below : List Frame} {meth : Method} {c : Code} {D : va_G} {cI cZ cC cJ cA : ClassId} {P : Nat → Nat} {M' : Mm} {r' : Int32} {kf2 : Mm → Int32 → Int32 → Rs} (hx : p.tables.exec = Jvm.exec) (hb : c.code = cX3_registerAt) (hml : c.maxLocals = 3) (hr : meth.sig.returnType = (some .int)) (hlk : meth.locks = false) (hgt : ∀ w ∈ GT, w.before args s = true) (hown : s.vm.findClass RX3 = some m.cls) (hK : va_K D vwCl [(cI, .int), (cZ, .boolean), (cC, .char), (cJ, .long), (cA, .array .int)] s) (hO : Old s0 s) (hAO : ∀ q, (aP P 77) q → s0.heap.size ≤ q) (kk2 : ∀ (M : Mm) (v1 : Int32) (v2 : Int32) (H : Heap) (locs : List Loc) (ls : Array Slot), lv_has ls 3 [(0, .ref (P 50)), (1, .int v1), (2, .int v2)] → va_P D vwCl ((wX cI cZ cC cJ cA P) M) H → va_D (aP P 77) ((wX cI cZ cC cJ cA P) M) → va_S (aP P 77) s.heap H locs → kf2 M v1 v2 = some (M', r') → W p l e ({ frames := 2, cells := 0, slots := 0, locals := 43 }) s m args below meth c H locs 0 0 (MQ below (gQi D (aP P 77) ((wX cI cZ cC cJ cA P) M') r') args s 0 0 (aP P 77)) (F0 m 2 ls [])) : ∀ (M : Mm) (v1 : Int32) (v2 : Int32) (H : Heap) (locs : List Loc) (ls : Array Slot), lv_has ls 3 [(0, .ref (P 50)), (1, .int v1), (2, .int v2)] → va_P D vwCl ((wX cI cZ cC cJ cA P) M) H → va_D (aP P 77) ((wX cI cZ cC cJ cA P) M) → va_S (aP P 77) s.heap H locs → q_Device_registerAt_39 kf2 M v1 v2 = some (M', r') → W p l e ({ frames := 2, cells := 0, slots := 0, locals := 43 }) s m args below meth c H locs 0 0 (MQ below (gQi D (aP P 77) ((wX cI cZ cC cJ cA P) M') r') args s 0 0 (aP P 77)) (F0 m 39 ls []) := by
  intro M v1 v2 H locs ls hl hP hD hS h
  unfold q_Device_registerAt_39 at h
  refine lv_iinc (v := (v2 + 1)) hx hb dX3_registerAt_39 hl (k := 2) rfl rfl (Nat.le_of_ble_eq_true rfl) (lv' := [(2, .int (v2 + 1)), (0, .ref (P 50)), (1, .int v1)]) rfl (fun ls hl => ?_)
  refine lv_goto hx hb dX3_registerAt_42 (tgt := 2) rfl ?_
  have hl := lv_sub hl [1, 2, 0] (l' := [(0, .ref (P 50)), (1, .int v1), (2, .int (v2 + 1))]) rfl
  exact kk2 M v1 (v2 + 1) H locs ls hl hP hD hS h
set_option maxHeartbeats 4000000 in
set_option maxRecDepth 20000 in
theorem b_Device_registerAt_2 {p : Program} {l : Launch} {e : Env} {s s0 : State} {m : MethodId} {args : Array Value} {below : List Frame} {meth : Method} {c : Code} {D : va_G} {cI cZ cC cJ cA : ClassId} {P : Nat → Nat} {M' : Mm} {r' : Int32}  (hx : p.tables.exec = Jvm.exec) (hb : c.code = cX3_registerAt) (hml : c.maxLocals = 3) (hr : meth.sig.returnType = (some .int)) (hlk : meth.locks = false) (hgt : ∀ w ∈ GT, w.before args s = true) (hown : s.vm.findClass RX3 = some m.cls) (hK : va_K D vwCl [(cI, .int), (cZ, .boolean), (cC, .char), (cJ, .long), (cA, .array .int)] s) (hO : Old s0 s) (hAO : ∀ q, (aP P 77) q → s0.heap.size ≤ q)  : ∀ (n' : Nat) (M : Mm) (v1 : Int32) (v2 : Int32) (H : Heap) (locs : List Loc) (ls : Array Slot), lv_has ls 3 [(0, .ref (P 50)), (1, .int v1), (2, .int v2)] → va_P D vwCl ((wX cI cZ cC cJ cA P) M) H → va_D (aP P 77) ((wX cI cZ cC cJ cA P) M) → va_S (aP P 77) s.heap H locs → q_Device_registerAt_2 n' M v1 v2 = some (M', r') → W p l e ({ frames := 2, cells := 0, slots := 0, locals := 43 }) s m args below meth c H locs 0 0 (MQ below (gQi D (aP P 77) ((wX cI cZ cC cJ cA P) M') r') args s 0 0 (aP P 77)) (F0 m 2 ls []) := by
  intro n'
  induction n' with
  | zero => exact fun _ _ _ _ _ _ _ _ _ _ h => (rs_n h).elim
  | succ n' ih =>
    intro M v1 v2 H locs ls hl hP hD hS h
    rw [q_Device_registerAt_2] at h
    refine lv_iload_n hx hb dX3_registerAt_2 rfl (lv_at hl 2 rfl) ?_
    refine lv_aload_n hx hb dX3_registerAt_3 rfl (lv_at hl 0 rfl) ?_
    refine va_get (D := D) (ci := 3) (v := .ref (P 24)) (C := RX3) (T := TX3) (N := 7) hx hb hgt iwX3 hown hK hP 50 gX_50 rfl 0 (Nat.le_of_ble_eq_true rfl) (hgt _ wd_1_126) (fun _ h9 => h9) rfl dX3_registerAt_4 ?_
    refine va_get (D := D) (ci := 6) (v := .int (M.1 24 0)) (C := RX6) (T := TX6) (N := 13) hx hb hgt iwX6 hown hK hP 24 gX_24 rfl 0 (Nat.le_of_ble_eq_true rfl) (hgt _ wd_1_5) (fun _ h9 => h9) rfl dX3_registerAt_7 ?_
    refine lv_icmp_ge hx hb dX3_registerAt_10 (tgt := 45) rfl (fun hc => ?_) (fun hc => ?_)
    · have h := br_T hc h
      refine lv_iconst (v := (-1)) hx hb dX3_registerAt_45 (by decide) ?_
      exact rt_i (w := (wX cI cZ cC cJ cA P)) hx hb hr hlk hP hD hS h dX3_registerAt_46
    · have h := br_F hc h
      refine lv_aload_n hx hb dX3_registerAt_13 rfl (lv_at hl 0 rfl) ?_
      refine va_get (D := D) (ci := 3) (v := .ref (P 24)) (C := RX3) (T := TX3) (N := 7) hx hb hgt iwX3 hown hK hP 50 gX_50 rfl 0 (Nat.le_of_ble_eq_true rfl) (hgt _ wd_1_126) (fun _ h9 => h9) rfl dX3_registerAt_14 ?_
      refine va_get (D := D) (ci := 6) (v := .ref (P 25)) (C := RX6) (T := TX6) (N := 13) hx hb hgt iwX6 hown hK hP 24 gX_24 rfl 1 (Nat.le_of_ble_eq_true rfl) (hgt _ wd_1_9) (fun _ h9 => h9) rfl dX3_registerAt_17 ?_
      refine lv_iload_n hx hb dX3_registerAt_20 rfl (lv_at hl 2 rfl) ?_
      refine va_iald hx hb hK hP 25 0 gX_25 rfl (ix_l h) dX3_registerAt_21 ?_
      have h := ix_r h
      refine lv_iload_n hx hb dX3_registerAt_22 rfl (lv_at hl 1 rfl) ?_
      refine lv_icmp_ne hx hb dX3_registerAt_23 (tgt := 39) rfl (fun hc => ?_) (fun hc => ?_)
      · have h := br_F hc h
        have hl := lv_sub hl [0, 1, 2] (l' := [(0, .ref (P 50)), (1, .int v1), (2, .int v2)]) rfl
        exact b_Device_registerAt_39 hx hb hml hr hlk hgt hown hK hO hAO ih M v1 v2 H _ ls hl hP hD hS h
      · have h := br_T hc h
        refine lv_aload_n hx hb dX3_registerAt_26 rfl (lv_at hl 0 rfl) ?_
        refine va_get (D := D) (ci := 3) (v := .ref (P 51)) (C := RX3) (T := TX3) (N := 7) hx hb hgt iwX3 hown hK hP 50 gX_50 rfl 1 (Nat.le_of_ble_eq_true rfl) (hgt _ wd_1_127) (fun _ h9 => h9) rfl dX3_registerAt_27 ?_
        refine lv_iload_n hx hb dX3_registerAt_30 rfl (lv_at hl 2 rfl) ?_
        obtain ⟨M1, r2, hq, h⟩ := cal_o h
        refine cx_i (va_runV (As := [.int v2]) (rest := []) ⟨hx, hb, hml, hown, hgt⟩ (z_Mind_isThere l D cI cZ cC cJ cA P s0 hAO M v2 M1 r2 hq) (cwV 1 hgt (gV wd_2_106 wd_2_107 wd_2_108 wd_0_11 wd_2_109) rfl rfl rfl (by decide +kernel) ⟨Nat.le_of_ble_eq_true rfl, Nat.le_of_ble_eq_true rfl⟩) (prV hP hK hD hO hAO hS (va_recv hK hP (ci := 8) (q0 := 51) rfl gX_51)) rfl rfl hl.1 rfl (lv_room (Nat.le_of_ble_eq_true rfl)) dX3_registerAt_31 ⟨Nat.le_of_ble_eq_true rfl, Nat.le_of_ble_eq_true rfl⟩) hS (fun H locs hP hD hS => ?_)
        refine lv_if_eq hx hb dX3_registerAt_34 (tgt := 39) rfl (fun hc => ?_) (fun hc => ?_)
        · have h := br_T hc h
          have hl := lv_sub hl [0, 1, 2] (l' := [(0, .ref (P 50)), (1, .int v1), (2, .int v2)]) rfl
          exact b_Device_registerAt_39 hx hb hml hr hlk hgt hown hK hO hAO ih M1 v1 v2 H _ ls hl hP hD hS h
        · have h := br_F hc h
          refine lv_iload_n hx hb dX3_registerAt_37 rfl (lv_at hl 2 rfl) ?_
          exact rt_i (w := (wX cI cZ cC cJ cA P)) hx hb hr hlk hP hD hS h dX3_registerAt_38
set_option maxHeartbeats 4000000 in
set_option maxRecDepth 20000 in
theorem b_Device_registerAt_0 {p : Program} {l : Launch} {e : Env} {s s0 : State} {m : MethodId} {args : Array Value} {below : List Frame} {meth : Method} {c : Code} {D : va_G} {cI cZ cC cJ cA : ClassId} {P : Nat → Nat} {M' : Mm} {r' : Int32}  (hx : p.tables.exec = Jvm.exec) (hb : c.code = cX3_registerAt) (hml : c.maxLocals = 3) (hr : meth.sig.returnType = (some .int)) (hlk : meth.locks = false) (hgt : ∀ w ∈ GT, w.before args s = true) (hown : s.vm.findClass RX3 = some m.cls) (hK : va_K D vwCl [(cI, .int), (cZ, .boolean), (cC, .char), (cJ, .long), (cA, .array .int)] s) (hO : Old s0 s) (hAO : ∀ q, (aP P 77) q → s0.heap.size ≤ q)  : ∀ (M : Mm) (a1 : Int32) (H : Heap) (locs : List Loc) (ls : Array Slot), lv_has ls 3 [(0, .ref (P 50)), (1, .int a1)] → va_P D vwCl ((wX cI cZ cC cJ cA P) M) H → va_D (aP P 77) ((wX cI cZ cC cJ cA P) M) → va_S (aP P 77) s.heap H locs → q_Device_registerAt M a1 = some (M', r') → W p l e ({ frames := 2, cells := 0, slots := 0, locals := 43 }) s m args below meth c H locs 0 0 (MQ below (gQi D (aP P 77) ((wX cI cZ cC cJ cA P) M') r') args s 0 0 (aP P 77)) (F0 m 0 ls []) := by
  intro M a1 H locs ls hl hP hD hS h
  unfold q_Device_registerAt at h
  refine lv_iconst (v := 0) hx hb dX3_registerAt_0 (by decide) ?_
  refine lv_istore_n hx hb dX3_registerAt_1 rfl hl (Nat.le_of_ble_eq_true rfl) (lv' := [(2, .int 0), (0, .ref (P 50)), (1, .int a1)]) rfl (fun ls hl => ?_)
  have hl := lv_sub hl [1, 2, 0] (l' := [(0, .ref (P 50)), (1, .int a1), (2, .int 0)]) rfl
  exact b_Device_registerAt_2 hx hb hml hr hlk hgt hown hK hO hAO 4000 M a1 0 H _ ls hl hP hD hS h
set_option maxHeartbeats 4000000 in
set_option maxRecDepth 20000 in
theorem z_Device_registerAt (l : Launch) (D : va_G) (cI cZ cC cJ cA : ClassId) (P : Nat → Nat) (s0 : State) (hAO : ∀ q, (aP P 77) q → s0.heap.size ≤ q) (M : Mm) (a1 : Int32) (M' : Mm) (r' : Int32) (h : q_Device_registerAt M a1 = some (M', r')) : Met l yX3_registerAt wsX3_registerAt ({ frames := 2, cells := 0, slots := 0, locals := 43 }) (va_Pc [.ref (P 50), .int a1] (gPre s0 D [(cI, .int), (cZ, .boolean), (cC, .char), (cJ, .long), (cA, .array .int)] (aP P 77) ((wX cI cZ cC cJ cA P) M))) (gQi D (aP P 77) ((wX cI cZ cC cJ cA P) M') r') 0 0 (aP P 77) := by
  refine Met.ofW (cc := cX3_registerAt) (maxL := 3) (ret := (some .int)) (by decide) rfl ?_
  intro p e s m args below meth c s₁ B hml hv
  obtain ⟨rfl, hP, hK, hD, hO⟩ := hv
  have hx := B.exec
  have hb := B.bytes
  have hr := B.returns
  have hlk := B.notSynchronized
  have hgt := fun w (h : w ∈ GT) => atoms_spec (ws := wsX3_registerAt) B.pre w (List.mem_cons_of_mem _ h)
  have hown : s.vm.findClass RX3 = some m.cls := findClass_of_methodNamed B.named
  have hS : va_S (aP P 77) s.heap s.heap [] := va_S.rf
  have hl := lv_entry ([.ref (P 50), .int a1]) (n := 3) (Nat.le_of_ble_eq_true rfl)
  rw [lg_entry_eq]
  generalize (lg_sl ([.ref (P 50), .int a1]) ++ List.replicate (3 - (lg_sl ([.ref (P 50), .int a1])).length) Slot.unset).toArray = ls at hl ⊢
  have hl : lv_has ls 3 [(0, .ref (P 50)), (1, .int a1)] := hl
  exact b_Device_registerAt_0 hx hb hml hr hlk hgt hown hK hO hAO M a1 s.heap [] ls hl hP hD hS h
def q_Mind_isWritten  (M : Mm) (a1 : Int32) (a2 : Int32) (a3 : Int32) : Rs := ix a1 26 <| if (M.1 38 (a1 : Int32).toNatClampNeg) = a2 then (ix a2 16 <| ix a1 26 <| if ((a3 ^^^ (M.1 52 (a2 : Int32).toNatClampNeg)) &&& (M.1 42 (a1 : Int32).toNatClampNeg)) = 0 then (some (M, 0)) else (some (M, 1))) else (some (M, 0))
set_option maxHeartbeats 4000000 in
set_option maxRecDepth 20000 in
theorem b_Mind_isWritten_0 {p : Program} {l : Launch} {e : Env} {s s0 : State} {m : MethodId} {args : Array Value} {below : List Frame} {meth : Method} {c : Code} {D : va_G} {cI cZ cC cJ cA : ClassId} {P : Nat → Nat} {M' : Mm} {r' : Int32}  (hx : p.tables.exec = Jvm.exec) (hb : c.code = cX8_isWritten) (hml : c.maxLocals = 4) (hr : meth.sig.returnType = (some .boolean)) (hlk : meth.locks = false) (hgt : ∀ w ∈ GT, w.before args s = true) (hown : s.vm.findClass RX8 = some m.cls) (hK : va_K D vwCl [(cI, .int), (cZ, .boolean), (cC, .char), (cJ, .long), (cA, .array .int)] s) (hO : Old s0 s) (hAO : ∀ q, (aP P 77) q → s0.heap.size ≤ q)  : ∀ (M : Mm) (a1 : Int32) (a2 : Int32) (a3 : Int32) (H : Heap) (locs : List Loc) (ls : Array Slot), lv_has ls 4 [(0, .ref (P 51)), (1, .int a1), (2, .int a2), (3, .int a3)] → va_P D vwCl ((wX cI cZ cC cJ cA P) M) H → va_D (aP P 77) ((wX cI cZ cC cJ cA P) M) → va_S (aP P 77) s.heap H locs → q_Mind_isWritten M a1 a2 a3 = some (M', r') → W p l e ({ frames := 0, cells := 0, slots := 0, locals := 0 }) s m args below meth c H locs 0 0 (MQ below (gQi D (aP P 77) ((wX cI cZ cC cJ cA P) M') r') args s 0 0 (aP P 77)) (F0 m 0 ls []) := by
  intro M a1 a2 a3 H locs ls hl hP hD hS h
  unfold q_Mind_isWritten at h
  refine lv_aload_n hx hb dX8_isWritten_0 rfl (lv_at hl 0 rfl) ?_
  refine va_get (D := D) (ci := 8) (v := .ref (P 24)) (C := RX8) (T := TX8) (N := 3) hx hb hgt iwX8 hown hK hP 51 gX_51 rfl 0 (Nat.le_of_ble_eq_true rfl) (hgt _ wd_1_112) (fun _ h9 => h9) rfl dX8_isWritten_1 ?_
  refine va_get (D := D) (ci := 6) (v := .ref (P 38)) (C := RX6) (T := TX6) (N := 13) hx hb hgt iwX6 hown hK hP 24 gX_24 rfl 7 (Nat.le_of_ble_eq_true rfl) (hgt _ wd_1_28) (fun _ h9 => h9) rfl dX8_isWritten_4 ?_
  refine lv_iload_n hx hb dX8_isWritten_7 rfl (lv_at hl 1 rfl) ?_
  refine va_iald hx hb hK hP 38 0 gX_38 rfl (ix_l h) dX8_isWritten_8 ?_
  have h := ix_r h
  refine lv_iload_n hx hb dX8_isWritten_9 rfl (lv_at hl 2 rfl) ?_
  refine lv_icmp_eq hx hb dX8_isWritten_10 (tgt := 15) rfl (fun hc => ?_) (fun hc => ?_)
  · have h := br_T hc h
    refine lv_iload_n hx hb dX8_isWritten_15 rfl (lv_at hl 3 rfl) ?_
    refine lv_aload_n hx hb dX8_isWritten_16 rfl (lv_at hl 0 rfl) ?_
    refine va_get (D := D) (ci := 8) (v := .ref (P 52)) (C := RX8) (T := TX8) (N := 3) hx hb hgt iwX8 hown hK hP 51 gX_51 rfl 1 (Nat.le_of_ble_eq_true rfl) (hgt _ wd_1_113) (fun _ h9 => h9) rfl dX8_isWritten_17 ?_
    refine lv_iload_n hx hb dX8_isWritten_20 rfl (lv_at hl 2 rfl) ?_
    refine va_iald hx hb hK hP 52 0 gX_52 rfl (ix_l h) dX8_isWritten_21 ?_
    have h := ix_r h
    refine lv_ixor hx hb dX8_isWritten_22 ?_
    refine lv_aload_n hx hb dX8_isWritten_23 rfl (lv_at hl 0 rfl) ?_
    refine va_get (D := D) (ci := 8) (v := .ref (P 24)) (C := RX8) (T := TX8) (N := 3) hx hb hgt iwX8 hown hK hP 51 gX_51 rfl 0 (Nat.le_of_ble_eq_true rfl) (hgt _ wd_1_112) (fun _ h9 => h9) rfl dX8_isWritten_24 ?_
    refine va_get (D := D) (ci := 6) (v := .ref (P 42)) (C := RX6) (T := TX6) (N := 13) hx hb hgt iwX6 hown hK hP 24 gX_24 rfl 11 (Nat.le_of_ble_eq_true rfl) (hgt _ wd_1_43) (fun _ h9 => h9) rfl dX8_isWritten_27 ?_
    refine lv_iload_n hx hb dX8_isWritten_30 rfl (lv_at hl 1 rfl) ?_
    refine va_iald hx hb hK hP 42 0 gX_42 rfl (ix_l h) dX8_isWritten_31 ?_
    have h := ix_r h
    refine lv_iand hx hb dX8_isWritten_32 ?_
    refine lv_if_eq hx hb dX8_isWritten_33 (tgt := 40) rfl (fun hc => ?_) (fun hc => ?_)
    · have h := br_T hc h
      refine lv_iconst (v := 0) hx hb dX8_isWritten_40 (by decide) ?_
      exact rt_z (w := (wX cI cZ cC cJ cA P)) hx hb hr hlk rfl hP hD hS h dX8_isWritten_41
    · have h := br_F hc h
      refine lv_iconst (v := 1) hx hb dX8_isWritten_36 (by decide) ?_
      refine lv_goto hx hb dX8_isWritten_37 (tgt := 41) rfl ?_
      exact rt_z (w := (wX cI cZ cC cJ cA P)) hx hb hr hlk rfl hP hD hS h dX8_isWritten_41
  · have h := br_F hc h
    refine lv_iconst (v := 0) hx hb dX8_isWritten_13 (by decide) ?_
    exact rt_z (w := (wX cI cZ cC cJ cA P)) hx hb hr hlk rfl hP hD hS h dX8_isWritten_14
set_option maxHeartbeats 4000000 in
set_option maxRecDepth 20000 in
theorem z_Mind_isWritten (l : Launch) (D : va_G) (cI cZ cC cJ cA : ClassId) (P : Nat → Nat) (s0 : State) (hAO : ∀ q, (aP P 77) q → s0.heap.size ≤ q) (M : Mm) (a1 : Int32) (a2 : Int32) (a3 : Int32) (M' : Mm) (r' : Int32) (h : q_Mind_isWritten M a1 a2 a3 = some (M', r')) : Met l yX8_isWritten wsX8_isWritten ({ frames := 0, cells := 0, slots := 0, locals := 0 }) (va_Pc [.ref (P 51), .int a1, .int a2, .int a3] (gPre s0 D [(cI, .int), (cZ, .boolean), (cC, .char), (cJ, .long), (cA, .array .int)] (aP P 77) ((wX cI cZ cC cJ cA P) M))) (gQi D (aP P 77) ((wX cI cZ cC cJ cA P) M') r') 0 0 (aP P 77) := by
  refine Met.ofW (cc := cX8_isWritten) (maxL := 4) (ret := (some .boolean)) (by decide) rfl ?_
  intro p e s m args below meth c s₁ B hml hv
  obtain ⟨rfl, hP, hK, hD, hO⟩ := hv
  have hx := B.exec
  have hb := B.bytes
  have hr := B.returns
  have hlk := B.notSynchronized
  have hgt := fun w (h : w ∈ GT) => atoms_spec (ws := wsX8_isWritten) B.pre w (List.mem_cons_of_mem _ h)
  have hown : s.vm.findClass RX8 = some m.cls := findClass_of_methodNamed B.named
  have hS : va_S (aP P 77) s.heap s.heap [] := va_S.rf
  have hl := lv_entry ([.ref (P 51), .int a1, .int a2, .int a3]) (n := 4) (Nat.le_of_ble_eq_true rfl)
  rw [lg_entry_eq]
  generalize (lg_sl ([.ref (P 51), .int a1, .int a2, .int a3]) ++ List.replicate (4 - (lg_sl ([.ref (P 51), .int a1, .int a2, .int a3])).length) Slot.unset).toArray = ls at hl ⊢
  have hl : lv_has ls 4 [(0, .ref (P 51)), (1, .int a1), (2, .int a2), (3, .int a3)] := hl
  exact b_Mind_isWritten_0 hx hb hml hr hlk hgt hown hK hO hAO M a1 a2 a3 s.heap [] ls hl hP hD hS h
def q_Mind_brokenBy_184 (kf14 : Mm → Int32 → Int32 → Int32 → Int32 → Rs) (M : Mm) (v1 : Int32) (v2 : Int32) (v4 : Int32) (v5 : Int32) : Rs := kf14 M v1 v2 v4 (v5 + 1)
def q_Mind_brokenBy_170 (kf14 : Mm → Int32 → Int32 → Int32 → Int32 → Rs) (M : Mm) (v1 : Int32) (v2 : Int32) (v4 : Int32) (v5 : Int32) (v7 : Int32) : Rs := if v7 = 0 then (q_Mind_brokenBy_184 kf14 M v1 v2 v4 v5) else (lt' (v4 ||| ((1 : Int32) <<< (v5 &&& 31))) fun x1 => q_Mind_brokenBy_184 kf14 M v1 v2 x1 v5)
def q_Mind_brokenBy_168 (kf14 : Mm → Int32 → Int32 → Int32 → Int32 → Rs) (M : Mm) (v1 : Int32) (v2 : Int32) (v4 : Int32) (v5 : Int32) (t0 : Int32) : Rs := q_Mind_brokenBy_170 kf14 M v1 v2 v4 v5 t0
def q_Mind_brokenBy_167 (kf14 : Mm → Int32 → Int32 → Int32 → Int32 → Rs) (M : Mm) (v1 : Int32) (v2 : Int32) (v4 : Int32) (v5 : Int32) : Rs := q_Mind_brokenBy_168 kf14 M v1 v2 v4 v5 0
def q_Mind_brokenBy_121 (kf14 : Mm → Int32 → Int32 → Int32 → Int32 → Rs) (M : Mm) (v1 : Int32) (v2 : Int32) (v4 : Int32) (v5 : Int32) (t0 : Int32) : Rs := q_Mind_brokenBy_170 kf14 M v1 v2 v4 v5 t0
def q_Mind_brokenBy_120 (kf14 : Mm → Int32 → Int32 → Int32 → Int32 → Rs) (M : Mm) (v1 : Int32) (v2 : Int32) (v4 : Int32) (v5 : Int32) : Rs := q_Mind_brokenBy_121 kf14 M v1 v2 v4 v5 0
def q_Mind_brokenBy_79 (kf14 : Mm → Int32 → Int32 → Int32 → Int32 → Rs) (M : Mm) (v1 : Int32) (v2 : Int32) (v4 : Int32) (v5 : Int32) (t0 : Int32) : Rs := q_Mind_brokenBy_170 kf14 M v1 v2 v4 v5 t0
def q_Mind_brokenBy_78 (kf14 : Mm → Int32 → Int32 → Int32 → Int32 → Rs) (M : Mm) (v1 : Int32) (v2 : Int32) (v4 : Int32) (v5 : Int32) : Rs := q_Mind_brokenBy_79 kf14 M v1 v2 v4 v5 0
def q_Mind_brokenBy_41 (kf14 : Mm → Int32 → Int32 → Int32 → Int32 → Rs) (M : Mm) (v1 : Int32) (v2 : Int32) (v4 : Int32) (v5 : Int32) (t0 : Int32) : Rs := ix v5 12 <| if (M.1 44 (v5 : Int32).toNatClampNeg) = 0 then (if t0 = 0 then (ix v5 12 <| cal (q_Mind_isWritten M (M.1 46 (v5 : Int32).toNatClampNeg) v1 v2) fun M1 r2 => if r2 = 0 then (q_Mind_brokenBy_78 kf14 M1 v1 v2 v4 v5) else (q_Mind_brokenBy_79 kf14 M1 v1 v2 v4 v5 1)) else (q_Mind_brokenBy_78 kf14 M v1 v2 v4 v5)) else (ix v5 12 <| if (M.1 44 (v5 : Int32).toNatClampNeg) = 2 then (if t0 = 0 then (q_Mind_brokenBy_120 kf14 M v1 v2 v4 v5) else (ix v5 12 <| cal (q_Mind_isWritten M (M.1 45 (v5 : Int32).toNatClampNeg) v1 v2) fun M1 r2 => if r2 = 0 then (q_Mind_brokenBy_120 kf14 M1 v1 v2 v4 v5) else (q_Mind_brokenBy_121 kf14 M1 v1 v2 v4 v5 1))) else (ix v5 12 <| cal (q_Mind_isWritten M (M.1 45 (v5 : Int32).toNatClampNeg) v1 v2) fun M1 r2 => if r2 = 0 then (q_Mind_brokenBy_167 kf14 M1 v1 v2 v4 v5) else (ix v5 12 <| cal (q_Mind_knownValue M1 (M1.1 46 (v5 : Int32).toNatClampNeg)) fun M3 r4 => ix v5 12 <| if r4 = (M3.1 47 (v5 : Int32).toNatClampNeg) then (q_Mind_brokenBy_167 kf14 M3 v1 v2 v4 v5) else (q_Mind_brokenBy_168 kf14 M3 v1 v2 v4 v5 1))))
def q_Mind_brokenBy_14  : Nat → Mm → Int32 → Int32 → Int32 → Int32 → Rs
  | 0, _, _, _, _, _ => none
  | n' + 1, M, v1, v2, v4, v5 => if (M.1 43 0) ≤ v5 then (some (M, v4)) else (if ((((M.1 51 2) : Int32) >>> (v5 &&& 31)) &&& 1) = 1 then (q_Mind_brokenBy_41 (q_Mind_brokenBy_14 n') M v1 v2 v4 v5 1) else (q_Mind_brokenBy_41 (q_Mind_brokenBy_14 n') M v1 v2 v4 v5 0))
def q_Mind_brokenBy  (M : Mm) (a1 : Int32) (a2 : Int32) : Rs := q_Mind_brokenBy_14 4000 M a1 a2 0 0
set_option maxHeartbeats 4000000 in
set_option maxRecDepth 20000 in
theorem b_Mind_brokenBy_184 {p : Program} {l : Launch} {e : Env} {s s0 : State} {m : MethodId} {args : Array Value} {below : List Frame} {meth : Method} {c : Code} {D : va_G} {cI cZ cC cJ cA : ClassId} {P : Nat → Nat} {M' : Mm} {r' : Int32} {kf14 : Mm → Int32 → Int32 → Int32 → Int32 → Rs} (hx : p.tables.exec = Jvm.exec) (hb : c.code = cX8_brokenBy) (hml : c.maxLocals = 8) (hr : meth.sig.returnType = (some .int)) (hlk : meth.locks = false) (hgt : ∀ w ∈ GT, w.before args s = true) (hown : s.vm.findClass RX8 = some m.cls) (hK : va_K D vwCl [(cI, .int), (cZ, .boolean), (cC, .char), (cJ, .long), (cA, .array .int)] s) (hO : Old s0 s) (hAO : ∀ q, (aP P 77) q → s0.heap.size ≤ q) (kk14 : ∀ (M : Mm) (v1 : Int32) (v2 : Int32) (v4 : Int32) (v5 : Int32) (H : Heap) (locs : List Loc) (ls : Array Slot), lv_has ls 8 [(0, .ref (P 51)), (1, .int v1), (2, .int v2), (3, .ref (P 43)), (4, .int v4), (5, .int v5)] → va_P D vwCl ((wX cI cZ cC cJ cA P) M) H → va_D (aP P 77) ((wX cI cZ cC cJ cA P) M) → va_S (aP P 77) s.heap H locs → kf14 M v1 v2 v4 v5 = some (M', r') → W p l e ({ frames := 1, cells := 0, slots := 0, locals := 23 }) s m args below meth c H locs 0 0 (MQ below (gQi D (aP P 77) ((wX cI cZ cC cJ cA P) M') r') args s 0 0 (aP P 77)) (F0 m 14 ls [])) : ∀ (M : Mm) (v1 : Int32) (v2 : Int32) (v4 : Int32) (v5 : Int32) (H : Heap) (locs : List Loc) (ls : Array Slot), lv_has ls 8 [(0, .ref (P 51)), (1, .int v1), (2, .int v2), (3, .ref (P 43)), (4, .int v4), (5, .int v5)] → va_P D vwCl ((wX cI cZ cC cJ cA P) M) H → va_D (aP P 77) ((wX cI cZ cC cJ cA P) M) → va_S (aP P 77) s.heap H locs → q_Mind_brokenBy_184 kf14 M v1 v2 v4 v5 = some (M', r') → W p l e ({ frames := 1, cells := 0, slots := 0, locals := 23 }) s m args below meth c H locs 0 0 (MQ below (gQi D (aP P 77) ((wX cI cZ cC cJ cA P) M') r') args s 0 0 (aP P 77)) (F0 m 184 ls []) := by
  intro M v1 v2 v4 v5 H locs ls hl hP hD hS h
  unfold q_Mind_brokenBy_184 at h
  refine lv_iinc (v := (v5 + 1)) hx hb dX8_brokenBy_184 hl (k := 5) rfl rfl (Nat.le_of_ble_eq_true rfl) (lv' := [(5, .int (v5 + 1)), (0, .ref (P 51)), (1, .int v1), (2, .int v2), (3, .ref (P 43)), (4, .int v4)]) rfl (fun ls hl => ?_)
  refine lv_goto hx hb dX8_brokenBy_187 (tgt := 14) rfl ?_
  have hl := lv_sub hl [1, 2, 3, 4, 5, 0] (l' := [(0, .ref (P 51)), (1, .int v1), (2, .int v2), (3, .ref (P 43)), (4, .int v4), (5, .int (v5 + 1))]) rfl
  exact kk14 M v1 v2 v4 (v5 + 1) H locs ls hl hP hD hS h
set_option maxHeartbeats 4000000 in
set_option maxRecDepth 20000 in
theorem b_Mind_brokenBy_170 {p : Program} {l : Launch} {e : Env} {s s0 : State} {m : MethodId} {args : Array Value} {below : List Frame} {meth : Method} {c : Code} {D : va_G} {cI cZ cC cJ cA : ClassId} {P : Nat → Nat} {M' : Mm} {r' : Int32} {kf14 : Mm → Int32 → Int32 → Int32 → Int32 → Rs} (hx : p.tables.exec = Jvm.exec) (hb : c.code = cX8_brokenBy) (hml : c.maxLocals = 8) (hr : meth.sig.returnType = (some .int)) (hlk : meth.locks = false) (hgt : ∀ w ∈ GT, w.before args s = true) (hown : s.vm.findClass RX8 = some m.cls) (hK : va_K D vwCl [(cI, .int), (cZ, .boolean), (cC, .char), (cJ, .long), (cA, .array .int)] s) (hO : Old s0 s) (hAO : ∀ q, (aP P 77) q → s0.heap.size ≤ q) (kk14 : ∀ (M : Mm) (v1 : Int32) (v2 : Int32) (v4 : Int32) (v5 : Int32) (H : Heap) (locs : List Loc) (ls : Array Slot), lv_has ls 8 [(0, .ref (P 51)), (1, .int v1), (2, .int v2), (3, .ref (P 43)), (4, .int v4), (5, .int v5)] → va_P D vwCl ((wX cI cZ cC cJ cA P) M) H → va_D (aP P 77) ((wX cI cZ cC cJ cA P) M) → va_S (aP P 77) s.heap H locs → kf14 M v1 v2 v4 v5 = some (M', r') → W p l e ({ frames := 1, cells := 0, slots := 0, locals := 23 }) s m args below meth c H locs 0 0 (MQ below (gQi D (aP P 77) ((wX cI cZ cC cJ cA P) M') r') args s 0 0 (aP P 77)) (F0 m 14 ls [])) : ∀ (M : Mm) (v1 : Int32) (v2 : Int32) (v4 : Int32) (v5 : Int32) (v7 : Int32) (H : Heap) (locs : List Loc) (ls : Array Slot), lv_has ls 8 [(0, .ref (P 51)), (1, .int v1), (2, .int v2), (3, .ref (P 43)), (4, .int v4), (5, .int v5), (7, .int v7)] → va_P D vwCl ((wX cI cZ cC cJ cA P) M) H → va_D (aP P 77) ((wX cI cZ cC cJ cA P) M) → va_S (aP P 77) s.heap H locs → q_Mind_brokenBy_170 kf14 M v1 v2 v4 v5 v7 = some (M', r') → W p l e ({ frames := 1, cells := 0, slots := 0, locals := 23 }) s m args below meth c H locs 0 0 (MQ below (gQi D (aP P 77) ((wX cI cZ cC cJ cA P) M') r') args s 0 0 (aP P 77)) (F0 m 170 ls []) := by
  intro M v1 v2 v4 v5 v7 H locs ls hl hP hD hS h
  unfold q_Mind_brokenBy_170 at h
  refine lv_iload hx hb dX8_brokenBy_170 (lv_at hl 6 rfl) ?_
  refine lv_if_eq hx hb dX8_brokenBy_172 (tgt := 184) rfl (fun hc => ?_) (fun hc => ?_)
  · have h := br_T hc h
    have hl := lv_sub hl [0, 1, 2, 3, 4, 5] (l' := [(0, .ref (P 51)), (1, .int v1), (2, .int v2), (3, .ref (P 43)), (4, .int v4), (5, .int v5)]) rfl
    exact b_Mind_brokenBy_184 hx hb hml hr hlk hgt hown hK hO hAO kk14 M v1 v2 v4 v5 H _ ls hl hP hD hS h
  · have h := br_F hc h
    refine lv_iload hx hb dX8_brokenBy_175 (lv_at hl 4 rfl) ?_
    refine lv_iconst (v := 1) hx hb dX8_brokenBy_177 (by decide) ?_
    refine lv_iload hx hb dX8_brokenBy_178 (lv_at hl 5 rfl) ?_
    refine lv_ishl hx hb dX8_brokenBy_180 ?_
    refine lv_ior hx hb dX8_brokenBy_181 ?_
    refine lv_topi (fun x1 ex1 => ?_)
    have h := lt_o ex1 h
    refine lv_istore hx hb dX8_brokenBy_182 hl (Nat.le_of_ble_eq_true rfl) (lv' := [(4, .int x1), (0, .ref (P 51)), (1, .int v1), (2, .int v2), (3, .ref (P 43)), (5, .int v5), (7, .int v7)]) rfl (fun ls hl => ?_)
    have hl := lv_sub hl [1, 2, 3, 4, 0, 5] (l' := [(0, .ref (P 51)), (1, .int v1), (2, .int v2), (3, .ref (P 43)), (4, .int x1), (5, .int v5)]) rfl
    exact b_Mind_brokenBy_184 hx hb hml hr hlk hgt hown hK hO hAO kk14 M v1 v2 x1 v5 H _ ls hl hP hD hS h
set_option maxHeartbeats 4000000 in
set_option maxRecDepth 20000 in
theorem b_Mind_brokenBy_168 {p : Program} {l : Launch} {e : Env} {s s0 : State} {m : MethodId} {args : Array Value} {below : List Frame} {meth : Method} {c : Code} {D : va_G} {cI cZ cC cJ cA : ClassId} {P : Nat → Nat} {M' : Mm} {r' : Int32} {kf14 : Mm → Int32 → Int32 → Int32 → Int32 → Rs} (hx : p.tables.exec = Jvm.exec) (hb : c.code = cX8_brokenBy) (hml : c.maxLocals = 8) (hr : meth.sig.returnType = (some .int)) (hlk : meth.locks = false) (hgt : ∀ w ∈ GT, w.before args s = true) (hown : s.vm.findClass RX8 = some m.cls) (hK : va_K D vwCl [(cI, .int), (cZ, .boolean), (cC, .char), (cJ, .long), (cA, .array .int)] s) (hO : Old s0 s) (hAO : ∀ q, (aP P 77) q → s0.heap.size ≤ q) (kk14 : ∀ (M : Mm) (v1 : Int32) (v2 : Int32) (v4 : Int32) (v5 : Int32) (H : Heap) (locs : List Loc) (ls : Array Slot), lv_has ls 8 [(0, .ref (P 51)), (1, .int v1), (2, .int v2), (3, .ref (P 43)), (4, .int v4), (5, .int v5)] → va_P D vwCl ((wX cI cZ cC cJ cA P) M) H → va_D (aP P 77) ((wX cI cZ cC cJ cA P) M) → va_S (aP P 77) s.heap H locs → kf14 M v1 v2 v4 v5 = some (M', r') → W p l e ({ frames := 1, cells := 0, slots := 0, locals := 23 }) s m args below meth c H locs 0 0 (MQ below (gQi D (aP P 77) ((wX cI cZ cC cJ cA P) M') r') args s 0 0 (aP P 77)) (F0 m 14 ls [])) : ∀ (M : Mm) (v1 : Int32) (v2 : Int32) (v4 : Int32) (v5 : Int32) (t0 : Int32) (H : Heap) (locs : List Loc) (ls : Array Slot), lv_has ls 8 [(0, .ref (P 51)), (1, .int v1), (2, .int v2), (3, .ref (P 43)), (4, .int v4), (5, .int v5)] → va_P D vwCl ((wX cI cZ cC cJ cA P) M) H → va_D (aP P 77) ((wX cI cZ cC cJ cA P) M) → va_S (aP P 77) s.heap H locs → q_Mind_brokenBy_168 kf14 M v1 v2 v4 v5 t0 = some (M', r') → W p l e ({ frames := 1, cells := 0, slots := 0, locals := 23 }) s m args below meth c H locs 0 0 (MQ below (gQi D (aP P 77) ((wX cI cZ cC cJ cA P) M') r') args s 0 0 (aP P 77)) (F0 m 168 ls [.int t0]) := by
  intro M v1 v2 v4 v5 t0 H locs ls hl hP hD hS h
  unfold q_Mind_brokenBy_168 at h
  refine lv_istore hx hb dX8_brokenBy_168 hl (Nat.le_of_ble_eq_true rfl) (lv' := [(7, .int t0), (0, .ref (P 51)), (1, .int v1), (2, .int v2), (3, .ref (P 43)), (4, .int v4), (5, .int v5)]) rfl (fun ls hl => ?_)
  have hl := lv_sub hl [1, 2, 3, 4, 5, 6, 0] (l' := [(0, .ref (P 51)), (1, .int v1), (2, .int v2), (3, .ref (P 43)), (4, .int v4), (5, .int v5), (7, .int t0)]) rfl
  exact b_Mind_brokenBy_170 hx hb hml hr hlk hgt hown hK hO hAO kk14 M v1 v2 v4 v5 t0 H _ ls hl hP hD hS h
set_option maxHeartbeats 4000000 in
set_option maxRecDepth 20000 in
theorem b_Mind_brokenBy_167 {p : Program} {l : Launch} {e : Env} {s s0 : State} {m : MethodId} {args : Array Value} {below : List Frame} {meth : Method} {c : Code} {D : va_G} {cI cZ cC cJ cA : ClassId} {P : Nat → Nat} {M' : Mm} {r' : Int32} {kf14 : Mm → Int32 → Int32 → Int32 → Int32 → Rs} (hx : p.tables.exec = Jvm.exec) (hb : c.code = cX8_brokenBy) (hml : c.maxLocals = 8) (hr : meth.sig.returnType = (some .int)) (hlk : meth.locks = false) (hgt : ∀ w ∈ GT, w.before args s = true) (hown : s.vm.findClass RX8 = some m.cls) (hK : va_K D vwCl [(cI, .int), (cZ, .boolean), (cC, .char), (cJ, .long), (cA, .array .int)] s) (hO : Old s0 s) (hAO : ∀ q, (aP P 77) q → s0.heap.size ≤ q) (kk14 : ∀ (M : Mm) (v1 : Int32) (v2 : Int32) (v4 : Int32) (v5 : Int32) (H : Heap) (locs : List Loc) (ls : Array Slot), lv_has ls 8 [(0, .ref (P 51)), (1, .int v1), (2, .int v2), (3, .ref (P 43)), (4, .int v4), (5, .int v5)] → va_P D vwCl ((wX cI cZ cC cJ cA P) M) H → va_D (aP P 77) ((wX cI cZ cC cJ cA P) M) → va_S (aP P 77) s.heap H locs → kf14 M v1 v2 v4 v5 = some (M', r') → W p l e ({ frames := 1, cells := 0, slots := 0, locals := 23 }) s m args below meth c H locs 0 0 (MQ below (gQi D (aP P 77) ((wX cI cZ cC cJ cA P) M') r') args s 0 0 (aP P 77)) (F0 m 14 ls [])) : ∀ (M : Mm) (v1 : Int32) (v2 : Int32) (v4 : Int32) (v5 : Int32) (H : Heap) (locs : List Loc) (ls : Array Slot), lv_has ls 8 [(0, .ref (P 51)), (1, .int v1), (2, .int v2), (3, .ref (P 43)), (4, .int v4), (5, .int v5)] → va_P D vwCl ((wX cI cZ cC cJ cA P) M) H → va_D (aP P 77) ((wX cI cZ cC cJ cA P) M) → va_S (aP P 77) s.heap H locs → q_Mind_brokenBy_167 kf14 M v1 v2 v4 v5 = some (M', r') → W p l e ({ frames := 1, cells := 0, slots := 0, locals := 23 }) s m args below meth c H locs 0 0 (MQ below (gQi D (aP P 77) ((wX cI cZ cC cJ cA P) M') r') args s 0 0 (aP P 77)) (F0 m 167 ls []) := by
  intro M v1 v2 v4 v5 H locs ls hl hP hD hS h
  unfold q_Mind_brokenBy_167 at h
  refine lv_iconst (v := 0) hx hb dX8_brokenBy_167 (by decide) ?_
  have hl := lv_sub hl [0, 1, 2, 3, 4, 5] (l' := [(0, .ref (P 51)), (1, .int v1), (2, .int v2), (3, .ref (P 43)), (4, .int v4), (5, .int v5)]) rfl
  exact b_Mind_brokenBy_168 hx hb hml hr hlk hgt hown hK hO hAO kk14 M v1 v2 v4 v5 0 H _ ls hl hP hD hS h
set_option maxHeartbeats 4000000 in
set_option maxRecDepth 20000 in
theorem b_Mind_brokenBy_121 {p : Program} {l : Launch} {e : Env} {s s0 : State} {m : MethodId} {args : Array Value} {below : List Frame} {meth : Method} {c : Code} {D : va_G} {cI cZ cC cJ cA : ClassId} {P : Nat → Nat} {M' : Mm} {r' : Int32} {kf14 : Mm → Int32 → Int32 → Int32 → Int32 → Rs} (hx : p.tables.exec = Jvm.exec) (hb : c.code = cX8_brokenBy) (hml : c.maxLocals = 8) (hr : meth.sig.returnType = (some .int)) (hlk : meth.locks = false) (hgt : ∀ w ∈ GT, w.before args s = true) (hown : s.vm.findClass RX8 = some m.cls) (hK : va_K D vwCl [(cI, .int), (cZ, .boolean), (cC, .char), (cJ, .long), (cA, .array .int)] s) (hO : Old s0 s) (hAO : ∀ q, (aP P 77) q → s0.heap.size ≤ q) (kk14 : ∀ (M : Mm) (v1 : Int32) (v2 : Int32) (v4 : Int32) (v5 : Int32) (H : Heap) (locs : List Loc) (ls : Array Slot), lv_has ls 8 [(0, .ref (P 51)), (1, .int v1), (2, .int v2), (3, .ref (P 43)), (4, .int v4), (5, .int v5)] → va_P D vwCl ((wX cI cZ cC cJ cA P) M) H → va_D (aP P 77) ((wX cI cZ cC cJ cA P) M) → va_S (aP P 77) s.heap H locs → kf14 M v1 v2 v4 v5 = some (M', r') → W p l e ({ frames := 1, cells := 0, slots := 0, locals := 23 }) s m args below meth c H locs 0 0 (MQ below (gQi D (aP P 77) ((wX cI cZ cC cJ cA P) M') r') args s 0 0 (aP P 77)) (F0 m 14 ls [])) : ∀ (M : Mm) (v1 : Int32) (v2 : Int32) (v4 : Int32) (v5 : Int32) (t0 : Int32) (H : Heap) (locs : List Loc) (ls : Array Slot), lv_has ls 8 [(0, .ref (P 51)), (1, .int v1), (2, .int v2), (3, .ref (P 43)), (4, .int v4), (5, .int v5)] → va_P D vwCl ((wX cI cZ cC cJ cA P) M) H → va_D (aP P 77) ((wX cI cZ cC cJ cA P) M) → va_S (aP P 77) s.heap H locs → q_Mind_brokenBy_121 kf14 M v1 v2 v4 v5 t0 = some (M', r') → W p l e ({ frames := 1, cells := 0, slots := 0, locals := 23 }) s m args below meth c H locs 0 0 (MQ below (gQi D (aP P 77) ((wX cI cZ cC cJ cA P) M') r') args s 0 0 (aP P 77)) (F0 m 121 ls [.int t0]) := by
  intro M v1 v2 v4 v5 t0 H locs ls hl hP hD hS h
  unfold q_Mind_brokenBy_121 at h
  refine lv_istore hx hb dX8_brokenBy_121 hl (Nat.le_of_ble_eq_true rfl) (lv' := [(7, .int t0), (0, .ref (P 51)), (1, .int v1), (2, .int v2), (3, .ref (P 43)), (4, .int v4), (5, .int v5)]) rfl (fun ls hl => ?_)
  refine lv_goto hx hb dX8_brokenBy_123 (tgt := 170) rfl ?_
  have hl := lv_sub hl [1, 2, 3, 4, 5, 6, 0] (l' := [(0, .ref (P 51)), (1, .int v1), (2, .int v2), (3, .ref (P 43)), (4, .int v4), (5, .int v5), (7, .int t0)]) rfl
  exact b_Mind_brokenBy_170 hx hb hml hr hlk hgt hown hK hO hAO kk14 M v1 v2 v4 v5 t0 H _ ls hl hP hD hS h
set_option maxHeartbeats 4000000 in
set_option maxRecDepth 20000 in
theorem b_Mind_brokenBy_120 {p : Program} {l : Launch} {e : Env} {s s0 : State} {m : MethodId} {args : Array Value} {below : List Frame} {meth : Method} {c : Code} {D : va_G} {cI cZ cC cJ cA : ClassId} {P : Nat → Nat} {M' : Mm} {r' : Int32} {kf14 : Mm → Int32 → Int32 → Int32 → Int32 → Rs} (hx : p.tables.exec = Jvm.exec) (hb : c.code = cX8_brokenBy) (hml : c.maxLocals = 8) (hr : meth.sig.returnType = (some .int)) (hlk : meth.locks = false) (hgt : ∀ w ∈ GT, w.before args s = true) (hown : s.vm.findClass RX8 = some m.cls) (hK : va_K D vwCl [(cI, .int), (cZ, .boolean), (cC, .char), (cJ, .long), (cA, .array .int)] s) (hO : Old s0 s) (hAO : ∀ q, (aP P 77) q → s0.heap.size ≤ q) (kk14 : ∀ (M : Mm) (v1 : Int32) (v2 : Int32) (v4 : Int32) (v5 : Int32) (H : Heap) (locs : List Loc) (ls : Array Slot), lv_has ls 8 [(0, .ref (P 51)), (1, .int v1), (2, .int v2), (3, .ref (P 43)), (4, .int v4), (5, .int v5)] → va_P D vwCl ((wX cI cZ cC cJ cA P) M) H → va_D (aP P 77) ((wX cI cZ cC cJ cA P) M) → va_S (aP P 77) s.heap H locs → kf14 M v1 v2 v4 v5 = some (M', r') → W p l e ({ frames := 1, cells := 0, slots := 0, locals := 23 }) s m args below meth c H locs 0 0 (MQ below (gQi D (aP P 77) ((wX cI cZ cC cJ cA P) M') r') args s 0 0 (aP P 77)) (F0 m 14 ls [])) : ∀ (M : Mm) (v1 : Int32) (v2 : Int32) (v4 : Int32) (v5 : Int32) (H : Heap) (locs : List Loc) (ls : Array Slot), lv_has ls 8 [(0, .ref (P 51)), (1, .int v1), (2, .int v2), (3, .ref (P 43)), (4, .int v4), (5, .int v5)] → va_P D vwCl ((wX cI cZ cC cJ cA P) M) H → va_D (aP P 77) ((wX cI cZ cC cJ cA P) M) → va_S (aP P 77) s.heap H locs → q_Mind_brokenBy_120 kf14 M v1 v2 v4 v5 = some (M', r') → W p l e ({ frames := 1, cells := 0, slots := 0, locals := 23 }) s m args below meth c H locs 0 0 (MQ below (gQi D (aP P 77) ((wX cI cZ cC cJ cA P) M') r') args s 0 0 (aP P 77)) (F0 m 120 ls []) := by
  intro M v1 v2 v4 v5 H locs ls hl hP hD hS h
  unfold q_Mind_brokenBy_120 at h
  refine lv_iconst (v := 0) hx hb dX8_brokenBy_120 (by decide) ?_
  have hl := lv_sub hl [0, 1, 2, 3, 4, 5] (l' := [(0, .ref (P 51)), (1, .int v1), (2, .int v2), (3, .ref (P 43)), (4, .int v4), (5, .int v5)]) rfl
  exact b_Mind_brokenBy_121 hx hb hml hr hlk hgt hown hK hO hAO kk14 M v1 v2 v4 v5 0 H _ ls hl hP hD hS h
set_option maxHeartbeats 4000000 in
set_option maxRecDepth 20000 in
theorem b_Mind_brokenBy_79 {p : Program} {l : Launch} {e : Env} {s s0 : State} {m : MethodId} {args : Array Value} {below : List Frame} {meth : Method} {c : Code} {D : va_G} {cI cZ cC cJ cA : ClassId} {P : Nat → Nat} {M' : Mm} {r' : Int32} {kf14 : Mm → Int32 → Int32 → Int32 → Int32 → Rs} (hx : p.tables.exec = Jvm.exec) (hb : c.code = cX8_brokenBy) (hml : c.maxLocals = 8) (hr : meth.sig.returnType = (some .int)) (hlk : meth.locks = false) (hgt : ∀ w ∈ GT, w.before args s = true) (hown : s.vm.findClass RX8 = some m.cls) (hK : va_K D vwCl [(cI, .int), (cZ, .boolean), (cC, .char), (cJ, .long), (cA, .array .int)] s) (hO : Old s0 s) (hAO : ∀ q, (aP P 77) q → s0.heap.size ≤ q) (kk14 : ∀ (M : Mm) (v1 : Int32) (v2 : Int32) (v4 : Int32) (v5 : Int32) (H : Heap) (locs : List Loc) (ls : Array Slot), lv_has ls 8 [(0, .ref (P 51)), (1, .int v1), (2, .int v2), (3, .ref (P 43)), (4, .int v4), (5, .int v5)] → va_P D vwCl ((wX cI cZ cC cJ cA P) M) H → va_D (aP P 77) ((wX cI cZ cC cJ cA P) M) → va_S (aP P 77) s.heap H locs → kf14 M v1 v2 v4 v5 = some (M', r') → W p l e ({ frames := 1, cells := 0, slots := 0, locals := 23 }) s m args below meth c H locs 0 0 (MQ below (gQi D (aP P 77) ((wX cI cZ cC cJ cA P) M') r') args s 0 0 (aP P 77)) (F0 m 14 ls [])) : ∀ (M : Mm) (v1 : Int32) (v2 : Int32) (v4 : Int32) (v5 : Int32) (t0 : Int32) (H : Heap) (locs : List Loc) (ls : Array Slot), lv_has ls 8 [(0, .ref (P 51)), (1, .int v1), (2, .int v2), (3, .ref (P 43)), (4, .int v4), (5, .int v5)] → va_P D vwCl ((wX cI cZ cC cJ cA P) M) H → va_D (aP P 77) ((wX cI cZ cC cJ cA P) M) → va_S (aP P 77) s.heap H locs → q_Mind_brokenBy_79 kf14 M v1 v2 v4 v5 t0 = some (M', r') → W p l e ({ frames := 1, cells := 0, slots := 0, locals := 23 }) s m args below meth c H locs 0 0 (MQ below (gQi D (aP P 77) ((wX cI cZ cC cJ cA P) M') r') args s 0 0 (aP P 77)) (F0 m 79 ls [.int t0]) := by
  intro M v1 v2 v4 v5 t0 H locs ls hl hP hD hS h
  unfold q_Mind_brokenBy_79 at h
  refine lv_istore hx hb dX8_brokenBy_79 hl (Nat.le_of_ble_eq_true rfl) (lv' := [(7, .int t0), (0, .ref (P 51)), (1, .int v1), (2, .int v2), (3, .ref (P 43)), (4, .int v4), (5, .int v5)]) rfl (fun ls hl => ?_)
  refine lv_goto hx hb dX8_brokenBy_81 (tgt := 170) rfl ?_
  have hl := lv_sub hl [1, 2, 3, 4, 5, 6, 0] (l' := [(0, .ref (P 51)), (1, .int v1), (2, .int v2), (3, .ref (P 43)), (4, .int v4), (5, .int v5), (7, .int t0)]) rfl
  exact b_Mind_brokenBy_170 hx hb hml hr hlk hgt hown hK hO hAO kk14 M v1 v2 v4 v5 t0 H _ ls hl hP hD hS h
set_option maxHeartbeats 4000000 in
set_option maxRecDepth 20000 in
theorem b_Mind_brokenBy_78 {p : Program} {l : Launch} {e : Env} {s s0 : State} {m : MethodId} {args : Array Value} {below : List Frame} {meth : Method} {c : Code} {D : va_G} {cI cZ cC cJ cA : ClassId} {P : Nat → Nat} {M' : Mm} {r' : Int32} {kf14 : Mm → Int32 → Int32 → Int32 → Int32 → Rs} (hx : p.tables.exec = Jvm.exec) (hb : c.code = cX8_brokenBy) (hml : c.maxLocals = 8) (hr : meth.sig.returnType = (some .int)) (hlk : meth.locks = false) (hgt : ∀ w ∈ GT, w.before args s = true) (hown : s.vm.findClass RX8 = some m.cls) (hK : va_K D vwCl [(cI, .int), (cZ, .boolean), (cC, .char), (cJ, .long), (cA, .array .int)] s) (hO : Old s0 s) (hAO : ∀ q, (aP P 77) q → s0.heap.size ≤ q) (kk14 : ∀ (M : Mm) (v1 : Int32) (v2 : Int32) (v4 : Int32) (v5 : Int32) (H : Heap) (locs : List Loc) (ls : Array Slot), lv_has ls 8 [(0, .ref (P 51)), (1, .int v1), (2, .int v2), (3, .ref (P 43)), (4, .int v4), (5, .int v5)] → va_P D vwCl ((wX cI cZ cC cJ cA P) M) H → va_D (aP P 77) ((wX cI cZ cC cJ cA P) M) → va_S (aP P 77) s.heap H locs → kf14 M v1 v2 v4 v5 = some (M', r') → W p l e ({ frames := 1, cells := 0, slots := 0, locals := 23 }) s m args below meth c H locs 0 0 (MQ below (gQi D (aP P 77) ((wX cI cZ cC cJ cA P) M') r') args s 0 0 (aP P 77)) (F0 m 14 ls [])) : ∀ (M : Mm) (v1 : Int32) (v2 : Int32) (v4 : Int32) (v5 : Int32) (H : Heap) (locs : List Loc) (ls : Array Slot), lv_has ls 8 [(0, .ref (P 51)), (1, .int v1), (2, .int v2), (3, .ref (P 43)), (4, .int v4), (5, .int v5)] → va_P D vwCl ((wX cI cZ cC cJ cA P) M) H → va_D (aP P 77) ((wX cI cZ cC cJ cA P) M) → va_S (aP P 77) s.heap H locs → q_Mind_brokenBy_78 kf14 M v1 v2 v4 v5 = some (M', r') → W p l e ({ frames := 1, cells := 0, slots := 0, locals := 23 }) s m args below meth c H locs 0 0 (MQ below (gQi D (aP P 77) ((wX cI cZ cC cJ cA P) M') r') args s 0 0 (aP P 77)) (F0 m 78 ls []) := by
  intro M v1 v2 v4 v5 H locs ls hl hP hD hS h
  unfold q_Mind_brokenBy_78 at h
  refine lv_iconst (v := 0) hx hb dX8_brokenBy_78 (by decide) ?_
  have hl := lv_sub hl [0, 1, 2, 3, 4, 5] (l' := [(0, .ref (P 51)), (1, .int v1), (2, .int v2), (3, .ref (P 43)), (4, .int v4), (5, .int v5)]) rfl
  exact b_Mind_brokenBy_79 hx hb hml hr hlk hgt hown hK hO hAO kk14 M v1 v2 v4 v5 0 H _ ls hl hP hD hS h
set_option maxHeartbeats 4000000 in
set_option maxRecDepth 20000 in
theorem b_Mind_brokenBy_41 {p : Program} {l : Launch} {e : Env} {s s0 : State} {m : MethodId} {args : Array Value} {below : List Frame} {meth : Method} {c : Code} {D : va_G} {cI cZ cC cJ cA : ClassId} {P : Nat → Nat} {M' : Mm} {r' : Int32} {kf14 : Mm → Int32 → Int32 → Int32 → Int32 → Rs} (hx : p.tables.exec = Jvm.exec) (hb : c.code = cX8_brokenBy) (hml : c.maxLocals = 8) (hr : meth.sig.returnType = (some .int)) (hlk : meth.locks = false) (hgt : ∀ w ∈ GT, w.before args s = true) (hown : s.vm.findClass RX8 = some m.cls) (hK : va_K D vwCl [(cI, .int), (cZ, .boolean), (cC, .char), (cJ, .long), (cA, .array .int)] s) (hO : Old s0 s) (hAO : ∀ q, (aP P 77) q → s0.heap.size ≤ q) (kk14 : ∀ (M : Mm) (v1 : Int32) (v2 : Int32) (v4 : Int32) (v5 : Int32) (H : Heap) (locs : List Loc) (ls : Array Slot), lv_has ls 8 [(0, .ref (P 51)), (1, .int v1), (2, .int v2), (3, .ref (P 43)), (4, .int v4), (5, .int v5)] → va_P D vwCl ((wX cI cZ cC cJ cA P) M) H → va_D (aP P 77) ((wX cI cZ cC cJ cA P) M) → va_S (aP P 77) s.heap H locs → kf14 M v1 v2 v4 v5 = some (M', r') → W p l e ({ frames := 1, cells := 0, slots := 0, locals := 23 }) s m args below meth c H locs 0 0 (MQ below (gQi D (aP P 77) ((wX cI cZ cC cJ cA P) M') r') args s 0 0 (aP P 77)) (F0 m 14 ls [])) : ∀ (M : Mm) (v1 : Int32) (v2 : Int32) (v4 : Int32) (v5 : Int32) (t0 : Int32) (H : Heap) (locs : List Loc) (ls : Array Slot), lv_has ls 8 [(0, .ref (P 51)), (1, .int v1), (2, .int v2), (3, .ref (P 43)), (4, .int v4), (5, .int v5)] → va_P D vwCl ((wX cI cZ cC cJ cA P) M) H → va_D (aP P 77) ((wX cI cZ cC cJ cA P) M) → va_S (aP P 77) s.heap H locs → q_Mind_brokenBy_41 kf14 M v1 v2 v4 v5 t0 = some (M', r') → W p l e ({ frames := 1, cells := 0, slots := 0, locals := 23 }) s m args below meth c H locs 0 0 (MQ below (gQi D (aP P 77) ((wX cI cZ cC cJ cA P) M') r') args s 0 0 (aP P 77)) (F0 m 41 ls [.int t0]) := by
  intro M v1 v2 v4 v5 t0 H locs ls hl hP hD hS h
  unfold q_Mind_brokenBy_41 at h
  refine lv_istore hx hb dX8_brokenBy_41 hl (Nat.le_of_ble_eq_true rfl) (lv' := [(6, .int t0), (0, .ref (P 51)), (1, .int v1), (2, .int v2), (3, .ref (P 43)), (4, .int v4), (5, .int v5)]) rfl (fun ls hl => ?_)
  refine lv_aload_n hx hb dX8_brokenBy_43 rfl (lv_at hl 4 rfl) ?_
  refine va_get (D := D) (ci := 11) (v := .ref (P 44)) (C := RX11) (T := TX11) (N := 7) hx hb hgt iwX11 hown hK hP 43 gX_43 rfl 1 (Nat.le_of_ble_eq_true rfl) (hgt _ wd_0_56) (fun _ h9 => h9) rfl dX8_brokenBy_44 ?_
  refine lv_iload hx hb dX8_brokenBy_47 (lv_at hl 6 rfl) ?_
  refine va_iald hx hb hK hP 44 0 gX_44 rfl (ix_l h) dX8_brokenBy_49 ?_
  have h := ix_r h
  refine lv_if_ne hx hb dX8_brokenBy_50 (tgt := 84) rfl (fun hc => ?_) (fun hc => ?_)
  · have h := br_F hc h
    refine lv_aload_n hx hb dX8_brokenBy_84 rfl (lv_at hl 4 rfl) ?_
    refine va_get (D := D) (ci := 11) (v := .ref (P 44)) (C := RX11) (T := TX11) (N := 7) hx hb hgt iwX11 hown hK hP 43 gX_43 rfl 1 (Nat.le_of_ble_eq_true rfl) (hgt _ wd_0_56) (fun _ h9 => h9) rfl dX8_brokenBy_85 ?_
    refine lv_iload hx hb dX8_brokenBy_88 (lv_at hl 6 rfl) ?_
    refine va_iald hx hb hK hP 44 0 gX_44 rfl (ix_l h) dX8_brokenBy_90 ?_
    have h := ix_r h
    refine lv_iconst (v := 2) hx hb dX8_brokenBy_91 (by decide) ?_
    refine lv_icmp_ne hx hb dX8_brokenBy_92 (tgt := 126) rfl (fun hc => ?_) (fun hc => ?_)
    · have h := br_F hc h
      refine lv_aload_n hx hb dX8_brokenBy_126 rfl (lv_at hl 1 rfl) ?_
      refine lv_aload_n hx hb dX8_brokenBy_127 rfl (lv_at hl 4 rfl) ?_
      refine va_get (D := D) (ci := 11) (v := .ref (P 45)) (C := RX11) (T := TX11) (N := 7) hx hb hgt iwX11 hown hK hP 43 gX_43 rfl 2 (Nat.le_of_ble_eq_true rfl) (hgt _ wd_0_60) (fun _ h9 => h9) rfl dX8_brokenBy_128 ?_
      refine lv_iload hx hb dX8_brokenBy_131 (lv_at hl 6 rfl) ?_
      refine va_iald hx hb hK hP 45 0 gX_45 rfl (ix_l h) dX8_brokenBy_133 ?_
      have h := ix_r h
      refine lv_iload_n hx hb dX8_brokenBy_134 rfl (lv_at hl 2 rfl) ?_
      refine lv_iload_n hx hb dX8_brokenBy_135 rfl (lv_at hl 3 rfl) ?_
      obtain ⟨M1, r2, hq, h⟩ := cal_o h
      refine cx_i (va_runV (As := [.int (M.1 45 (v5 : Int32).toNatClampNeg), .int v1, .int v2]) (rest := []) ⟨hx, hb, hml, hown, hgt⟩ (z_Mind_isWritten l D cI cZ cC cJ cA P s0 hAO M (M.1 45 (v5 : Int32).toNatClampNeg) v1 v2 M1 r2 hq) (cwV 3 hgt (gV wd_2_119 wd_2_121 sl__ChipMap_Mind____ChipMap_Mind___isWritten____III_Z_____ChipMap_Mind___isWritten____III_Z__ wd_0_11 wd_2_122) rfl rfl rfl (by decide +kernel) ⟨Nat.le_of_ble_eq_true rfl, Nat.le_of_ble_eq_true rfl⟩) (prV hP hK hD hO hAO hS (va_recv hK hP (ci := 8) (q0 := 51) rfl gX_51)) rfl rfl hl.1 rfl (lv_room (Nat.le_of_ble_eq_true rfl)) dX8_brokenBy_136 ⟨Nat.le_of_ble_eq_true rfl, Nat.le_of_ble_eq_true rfl⟩) hS (fun H locs hP hD hS => ?_)
      refine lv_if_eq hx hb dX8_brokenBy_139 (tgt := 167) rfl (fun hc => ?_) (fun hc => ?_)
      · have h := br_T hc h
        have hl := lv_sub hl [1, 2, 3, 4, 5, 6] (l' := [(0, .ref (P 51)), (1, .int v1), (2, .int v2), (3, .ref (P 43)), (4, .int v4), (5, .int v5)]) rfl
        exact b_Mind_brokenBy_167 hx hb hml hr hlk hgt hown hK hO hAO kk14 M1 v1 v2 v4 v5 H _ ls hl hP hD hS h
      · have h := br_F hc h
        refine lv_aload_n hx hb dX8_brokenBy_142 rfl (lv_at hl 1 rfl) ?_
        refine lv_aload_n hx hb dX8_brokenBy_143 rfl (lv_at hl 4 rfl) ?_
        refine va_get (D := D) (ci := 11) (v := .ref (P 46)) (C := RX11) (T := TX11) (N := 7) hx hb hgt iwX11 hown hK hP 43 gX_43 rfl 3 (Nat.le_of_ble_eq_true rfl) (hgt _ wd_0_64) (fun _ h9 => h9) rfl dX8_brokenBy_144 ?_
        refine lv_iload hx hb dX8_brokenBy_147 (lv_at hl 6 rfl) ?_
        refine va_iald hx hb hK hP 46 0 gX_46 rfl (ix_l h) dX8_brokenBy_149 ?_
        have h := ix_r h
        obtain ⟨M3, r4, hq, h⟩ := cal_o h
        refine cx_i (va_runV (As := [.int (M1.1 46 (v5 : Int32).toNatClampNeg)]) (rest := []) ⟨hx, hb, hml, hown, hgt⟩ (z_Mind_knownValue l D cI cZ cC cJ cA P s0 hAO M1 (M1.1 46 (v5 : Int32).toNatClampNeg) M3 r4 hq) (cwV 1 hgt (gV wd_2_110 wd_2_111 wd_2_112 wd_0_11 wd_2_113) rfl rfl rfl (by decide +kernel) ⟨Nat.le_of_ble_eq_true rfl, Nat.le_of_ble_eq_true rfl⟩) (prV hP hK hD hO hAO hS (va_recv hK hP (ci := 8) (q0 := 51) rfl gX_51)) rfl rfl hl.1 rfl (lv_room (Nat.le_of_ble_eq_true rfl)) dX8_brokenBy_150 ⟨Nat.le_of_ble_eq_true rfl, Nat.le_of_ble_eq_true rfl⟩) hS (fun H locs hP hD hS => ?_)
        refine lv_aload_n hx hb dX8_brokenBy_153 rfl (lv_at hl 4 rfl) ?_
        refine va_get (D := D) (ci := 11) (v := .ref (P 47)) (C := RX11) (T := TX11) (N := 7) hx hb hgt iwX11 hown hK hP 43 gX_43 rfl 4 (Nat.le_of_ble_eq_true rfl) (hgt _ wd_0_68) (fun _ h9 => h9) rfl dX8_brokenBy_154 ?_
        refine lv_iload hx hb dX8_brokenBy_157 (lv_at hl 6 rfl) ?_
        refine va_iald hx hb hK hP 47 0 gX_47 rfl (ix_l h) dX8_brokenBy_159 ?_
        have h := ix_r h
        refine lv_icmp_eq hx hb dX8_brokenBy_160 (tgt := 167) rfl (fun hc => ?_) (fun hc => ?_)
        · have h := br_T hc h
          have hl := lv_sub hl [1, 2, 3, 4, 5, 6] (l' := [(0, .ref (P 51)), (1, .int v1), (2, .int v2), (3, .ref (P 43)), (4, .int v4), (5, .int v5)]) rfl
          exact b_Mind_brokenBy_167 hx hb hml hr hlk hgt hown hK hO hAO kk14 M3 v1 v2 v4 v5 H _ ls hl hP hD hS h
        · have h := br_F hc h
          refine lv_iconst (v := 1) hx hb dX8_brokenBy_163 (by decide) ?_
          refine lv_goto hx hb dX8_brokenBy_164 (tgt := 168) rfl ?_
          have hl := lv_sub hl [1, 2, 3, 4, 5, 6] (l' := [(0, .ref (P 51)), (1, .int v1), (2, .int v2), (3, .ref (P 43)), (4, .int v4), (5, .int v5)]) rfl
          exact b_Mind_brokenBy_168 hx hb hml hr hlk hgt hown hK hO hAO kk14 M3 v1 v2 v4 v5 1 H _ ls hl hP hD hS h
    · have h := br_T hc h
      refine lv_iload hx hb dX8_brokenBy_95 (lv_at hl 0 rfl) ?_
      refine lv_if_eq hx hb dX8_brokenBy_97 (tgt := 120) rfl (fun hc => ?_) (fun hc => ?_)
      · have h := br_T hc h
        have hl := lv_sub hl [1, 2, 3, 4, 5, 6] (l' := [(0, .ref (P 51)), (1, .int v1), (2, .int v2), (3, .ref (P 43)), (4, .int v4), (5, .int v5)]) rfl
        exact b_Mind_brokenBy_120 hx hb hml hr hlk hgt hown hK hO hAO kk14 M v1 v2 v4 v5 H _ ls hl hP hD hS h
      · have h := br_F hc h
        refine lv_aload_n hx hb dX8_brokenBy_100 rfl (lv_at hl 1 rfl) ?_
        refine lv_aload_n hx hb dX8_brokenBy_101 rfl (lv_at hl 4 rfl) ?_
        refine va_get (D := D) (ci := 11) (v := .ref (P 45)) (C := RX11) (T := TX11) (N := 7) hx hb hgt iwX11 hown hK hP 43 gX_43 rfl 2 (Nat.le_of_ble_eq_true rfl) (hgt _ wd_0_60) (fun _ h9 => h9) rfl dX8_brokenBy_102 ?_
        refine lv_iload hx hb dX8_brokenBy_105 (lv_at hl 6 rfl) ?_
        refine va_iald hx hb hK hP 45 0 gX_45 rfl (ix_l h) dX8_brokenBy_107 ?_
        have h := ix_r h
        refine lv_iload_n hx hb dX8_brokenBy_108 rfl (lv_at hl 2 rfl) ?_
        refine lv_iload_n hx hb dX8_brokenBy_109 rfl (lv_at hl 3 rfl) ?_
        obtain ⟨M1, r2, hq, h⟩ := cal_o h
        refine cx_i (va_runV (As := [.int (M.1 45 (v5 : Int32).toNatClampNeg), .int v1, .int v2]) (rest := []) ⟨hx, hb, hml, hown, hgt⟩ (z_Mind_isWritten l D cI cZ cC cJ cA P s0 hAO M (M.1 45 (v5 : Int32).toNatClampNeg) v1 v2 M1 r2 hq) (cwV 3 hgt (gV wd_2_119 wd_2_121 sl__ChipMap_Mind____ChipMap_Mind___isWritten____III_Z_____ChipMap_Mind___isWritten____III_Z__ wd_0_11 wd_2_122) rfl rfl rfl (by decide +kernel) ⟨Nat.le_of_ble_eq_true rfl, Nat.le_of_ble_eq_true rfl⟩) (prV hP hK hD hO hAO hS (va_recv hK hP (ci := 8) (q0 := 51) rfl gX_51)) rfl rfl hl.1 rfl (lv_room (Nat.le_of_ble_eq_true rfl)) dX8_brokenBy_110 ⟨Nat.le_of_ble_eq_true rfl, Nat.le_of_ble_eq_true rfl⟩) hS (fun H locs hP hD hS => ?_)
        refine lv_if_eq hx hb dX8_brokenBy_113 (tgt := 120) rfl (fun hc => ?_) (fun hc => ?_)
        · have h := br_T hc h
          have hl := lv_sub hl [1, 2, 3, 4, 5, 6] (l' := [(0, .ref (P 51)), (1, .int v1), (2, .int v2), (3, .ref (P 43)), (4, .int v4), (5, .int v5)]) rfl
          exact b_Mind_brokenBy_120 hx hb hml hr hlk hgt hown hK hO hAO kk14 M1 v1 v2 v4 v5 H _ ls hl hP hD hS h
        · have h := br_F hc h
          refine lv_iconst (v := 1) hx hb dX8_brokenBy_116 (by decide) ?_
          refine lv_goto hx hb dX8_brokenBy_117 (tgt := 121) rfl ?_
          have hl := lv_sub hl [1, 2, 3, 4, 5, 6] (l' := [(0, .ref (P 51)), (1, .int v1), (2, .int v2), (3, .ref (P 43)), (4, .int v4), (5, .int v5)]) rfl
          exact b_Mind_brokenBy_121 hx hb hml hr hlk hgt hown hK hO hAO kk14 M1 v1 v2 v4 v5 1 H _ ls hl hP hD hS h
  · have h := br_T hc h
    refine lv_iload hx hb dX8_brokenBy_53 (lv_at hl 0 rfl) ?_
    refine lv_if_ne hx hb dX8_brokenBy_55 (tgt := 78) rfl (fun hc => ?_) (fun hc => ?_)
    · have h := br_F hc h
      have hl := lv_sub hl [1, 2, 3, 4, 5, 6] (l' := [(0, .ref (P 51)), (1, .int v1), (2, .int v2), (3, .ref (P 43)), (4, .int v4), (5, .int v5)]) rfl
      exact b_Mind_brokenBy_78 hx hb hml hr hlk hgt hown hK hO hAO kk14 M v1 v2 v4 v5 H _ ls hl hP hD hS h
    · have h := br_T hc h
      refine lv_aload_n hx hb dX8_brokenBy_58 rfl (lv_at hl 1 rfl) ?_
      refine lv_aload_n hx hb dX8_brokenBy_59 rfl (lv_at hl 4 rfl) ?_
      refine va_get (D := D) (ci := 11) (v := .ref (P 46)) (C := RX11) (T := TX11) (N := 7) hx hb hgt iwX11 hown hK hP 43 gX_43 rfl 3 (Nat.le_of_ble_eq_true rfl) (hgt _ wd_0_64) (fun _ h9 => h9) rfl dX8_brokenBy_60 ?_
      refine lv_iload hx hb dX8_brokenBy_63 (lv_at hl 6 rfl) ?_
      refine va_iald hx hb hK hP 46 0 gX_46 rfl (ix_l h) dX8_brokenBy_65 ?_
      have h := ix_r h
      refine lv_iload_n hx hb dX8_brokenBy_66 rfl (lv_at hl 2 rfl) ?_
      refine lv_iload_n hx hb dX8_brokenBy_67 rfl (lv_at hl 3 rfl) ?_
      obtain ⟨M1, r2, hq, h⟩ := cal_o h
      refine cx_i (va_runV (As := [.int (M.1 46 (v5 : Int32).toNatClampNeg), .int v1, .int v2]) (rest := []) ⟨hx, hb, hml, hown, hgt⟩ (z_Mind_isWritten l D cI cZ cC cJ cA P s0 hAO M (M.1 46 (v5 : Int32).toNatClampNeg) v1 v2 M1 r2 hq) (cwV 3 hgt (gV wd_2_119 wd_2_121 sl__ChipMap_Mind____ChipMap_Mind___isWritten____III_Z_____ChipMap_Mind___isWritten____III_Z__ wd_0_11 wd_2_122) rfl rfl rfl (by decide +kernel) ⟨Nat.le_of_ble_eq_true rfl, Nat.le_of_ble_eq_true rfl⟩) (prV hP hK hD hO hAO hS (va_recv hK hP (ci := 8) (q0 := 51) rfl gX_51)) rfl rfl hl.1 rfl (lv_room (Nat.le_of_ble_eq_true rfl)) dX8_brokenBy_68 ⟨Nat.le_of_ble_eq_true rfl, Nat.le_of_ble_eq_true rfl⟩) hS (fun H locs hP hD hS => ?_)
      refine lv_if_eq hx hb dX8_brokenBy_71 (tgt := 78) rfl (fun hc => ?_) (fun hc => ?_)
      · have h := br_T hc h
        have hl := lv_sub hl [1, 2, 3, 4, 5, 6] (l' := [(0, .ref (P 51)), (1, .int v1), (2, .int v2), (3, .ref (P 43)), (4, .int v4), (5, .int v5)]) rfl
        exact b_Mind_brokenBy_78 hx hb hml hr hlk hgt hown hK hO hAO kk14 M1 v1 v2 v4 v5 H _ ls hl hP hD hS h
      · have h := br_F hc h
        refine lv_iconst (v := 1) hx hb dX8_brokenBy_74 (by decide) ?_
        refine lv_goto hx hb dX8_brokenBy_75 (tgt := 79) rfl ?_
        have hl := lv_sub hl [1, 2, 3, 4, 5, 6] (l' := [(0, .ref (P 51)), (1, .int v1), (2, .int v2), (3, .ref (P 43)), (4, .int v4), (5, .int v5)]) rfl
        exact b_Mind_brokenBy_79 hx hb hml hr hlk hgt hown hK hO hAO kk14 M1 v1 v2 v4 v5 1 H _ ls hl hP hD hS h
set_option maxHeartbeats 4000000 in
set_option maxRecDepth 20000 in
theorem b_Mind_brokenBy_14 {p : Program} {l : Launch} {e : Env} {s s0 : State} {m : MethodId} {args : Array Value} {below : List Frame} {meth : Method} {c : Code} {D : va_G} {cI cZ cC cJ cA : ClassId} {P : Nat → Nat} {M' : Mm} {r' : Int32}  (hx : p.tables.exec = Jvm.exec) (hb : c.code = cX8_brokenBy) (hml : c.maxLocals = 8) (hr : meth.sig.returnType = (some .int)) (hlk : meth.locks = false) (hgt : ∀ w ∈ GT, w.before args s = true) (hown : s.vm.findClass RX8 = some m.cls) (hK : va_K D vwCl [(cI, .int), (cZ, .boolean), (cC, .char), (cJ, .long), (cA, .array .int)] s) (hO : Old s0 s) (hAO : ∀ q, (aP P 77) q → s0.heap.size ≤ q)  : ∀ (n' : Nat) (M : Mm) (v1 : Int32) (v2 : Int32) (v4 : Int32) (v5 : Int32) (H : Heap) (locs : List Loc) (ls : Array Slot), lv_has ls 8 [(0, .ref (P 51)), (1, .int v1), (2, .int v2), (3, .ref (P 43)), (4, .int v4), (5, .int v5)] → va_P D vwCl ((wX cI cZ cC cJ cA P) M) H → va_D (aP P 77) ((wX cI cZ cC cJ cA P) M) → va_S (aP P 77) s.heap H locs → q_Mind_brokenBy_14 n' M v1 v2 v4 v5 = some (M', r') → W p l e ({ frames := 1, cells := 0, slots := 0, locals := 23 }) s m args below meth c H locs 0 0 (MQ below (gQi D (aP P 77) ((wX cI cZ cC cJ cA P) M') r') args s 0 0 (aP P 77)) (F0 m 14 ls []) := by
  intro n'
  induction n' with
  | zero => exact fun _ _ _ _ _ _ _ _ _ _ _ _ h => (rs_n h).elim
  | succ n' ih =>
    intro M v1 v2 v4 v5 H locs ls hl hP hD hS h
    rw [q_Mind_brokenBy_14] at h
    refine lv_iload hx hb dX8_brokenBy_14 (lv_at hl 5 rfl) ?_
    refine lv_aload_n hx hb dX8_brokenBy_16 rfl (lv_at hl 3 rfl) ?_
    refine va_get (D := D) (ci := 11) (v := .int (M.1 43 0)) (C := RX11) (T := TX11) (N := 7) hx hb hgt iwX11 hown hK hP 43 gX_43 rfl 0 (Nat.le_of_ble_eq_true rfl) (hgt _ wd_0_51) (fun _ h9 => h9) rfl dX8_brokenBy_17 ?_
    refine lv_icmp_ge hx hb dX8_brokenBy_20 (tgt := 190) rfl (fun hc => ?_) (fun hc => ?_)
    · have h := br_T hc h
      refine lv_iload hx hb dX8_brokenBy_190 (lv_at hl 4 rfl) ?_
      exact rt_i (w := (wX cI cZ cC cJ cA P)) hx hb hr hlk hP hD hS h dX8_brokenBy_192
    · have h := br_F hc h
      refine lv_aload_n hx hb dX8_brokenBy_23 rfl (lv_at hl 0 rfl) ?_
      refine va_get (D := D) (ci := 8) (v := .int (M.1 51 2)) (C := RX8) (T := TX8) (N := 3) hx hb hgt iwX8 hown hK hP 51 gX_51 rfl 2 (Nat.le_of_ble_eq_true rfl) (hgt _ wd_1_117) (fun _ h9 => h9) rfl dX8_brokenBy_24 ?_
      refine lv_iload hx hb dX8_brokenBy_27 (lv_at hl 5 rfl) ?_
      refine lv_ishr hx hb dX8_brokenBy_29 ?_
      refine lv_iconst (v := 1) hx hb dX8_brokenBy_30 (by decide) ?_
      refine lv_iand hx hb dX8_brokenBy_31 ?_
      refine lv_iconst (v := 1) hx hb dX8_brokenBy_32 (by decide) ?_
      refine lv_icmp_ne hx hb dX8_brokenBy_33 (tgt := 40) rfl (fun hc => ?_) (fun hc => ?_)
      · have h := br_F hc h
        refine lv_iconst (v := 0) hx hb dX8_brokenBy_40 (by decide) ?_
        have hl := lv_sub hl [0, 1, 2, 3, 4, 5] (l' := [(0, .ref (P 51)), (1, .int v1), (2, .int v2), (3, .ref (P 43)), (4, .int v4), (5, .int v5)]) rfl
        exact b_Mind_brokenBy_41 hx hb hml hr hlk hgt hown hK hO hAO ih M v1 v2 v4 v5 0 H _ ls hl hP hD hS h
      · have h := br_T hc h
        refine lv_iconst (v := 1) hx hb dX8_brokenBy_36 (by decide) ?_
        refine lv_goto hx hb dX8_brokenBy_37 (tgt := 41) rfl ?_
        have hl := lv_sub hl [0, 1, 2, 3, 4, 5] (l' := [(0, .ref (P 51)), (1, .int v1), (2, .int v2), (3, .ref (P 43)), (4, .int v4), (5, .int v5)]) rfl
        exact b_Mind_brokenBy_41 hx hb hml hr hlk hgt hown hK hO hAO ih M v1 v2 v4 v5 1 H _ ls hl hP hD hS h
set_option maxHeartbeats 4000000 in
set_option maxRecDepth 20000 in
theorem b_Mind_brokenBy_0 {p : Program} {l : Launch} {e : Env} {s s0 : State} {m : MethodId} {args : Array Value} {below : List Frame} {meth : Method} {c : Code} {D : va_G} {cI cZ cC cJ cA : ClassId} {P : Nat → Nat} {M' : Mm} {r' : Int32}  (hx : p.tables.exec = Jvm.exec) (hb : c.code = cX8_brokenBy) (hml : c.maxLocals = 8) (hr : meth.sig.returnType = (some .int)) (hlk : meth.locks = false) (hgt : ∀ w ∈ GT, w.before args s = true) (hown : s.vm.findClass RX8 = some m.cls) (hK : va_K D vwCl [(cI, .int), (cZ, .boolean), (cC, .char), (cJ, .long), (cA, .array .int)] s) (hO : Old s0 s) (hAO : ∀ q, (aP P 77) q → s0.heap.size ≤ q)  : ∀ (M : Mm) (a1 : Int32) (a2 : Int32) (H : Heap) (locs : List Loc) (ls : Array Slot), lv_has ls 8 [(0, .ref (P 51)), (1, .int a1), (2, .int a2)] → va_P D vwCl ((wX cI cZ cC cJ cA P) M) H → va_D (aP P 77) ((wX cI cZ cC cJ cA P) M) → va_S (aP P 77) s.heap H locs → q_Mind_brokenBy M a1 a2 = some (M', r') → W p l e ({ frames := 1, cells := 0, slots := 0, locals := 23 }) s m args below meth c H locs 0 0 (MQ below (gQi D (aP P 77) ((wX cI cZ cC cJ cA P) M') r') args s 0 0 (aP P 77)) (F0 m 0 ls []) := by
  intro M a1 a2 H locs ls hl hP hD hS h
  unfold q_Mind_brokenBy at h
  refine lv_aload_n hx hb dX8_brokenBy_0 rfl (lv_at hl 0 rfl) ?_
  refine va_get (D := D) (ci := 8) (v := .ref (P 24)) (C := RX8) (T := TX8) (N := 3) hx hb hgt iwX8 hown hK hP 51 gX_51 rfl 0 (Nat.le_of_ble_eq_true rfl) (hgt _ wd_1_112) (fun _ h9 => h9) rfl dX8_brokenBy_1 ?_
  refine va_get (D := D) (ci := 6) (v := .ref (P 43)) (C := RX6) (T := TX6) (N := 13) hx hb hgt iwX6 hown hK hP 24 gX_24 rfl 12 (Nat.le_of_ble_eq_true rfl) (hgt _ wd_1_46) (fun _ h9 => h9) rfl dX8_brokenBy_4 ?_
  refine lv_astore_n hx hb dX8_brokenBy_7 rfl hl (Nat.le_of_ble_eq_true rfl) (lv' := [(3, .ref (P 43)), (0, .ref (P 51)), (1, .int a1), (2, .int a2)]) rfl (fun ls hl => ?_)
  refine lv_iconst (v := 0) hx hb dX8_brokenBy_8 (by decide) ?_
  refine lv_istore hx hb dX8_brokenBy_9 hl (Nat.le_of_ble_eq_true rfl) (lv' := [(4, .int 0), (3, .ref (P 43)), (0, .ref (P 51)), (1, .int a1), (2, .int a2)]) rfl (fun ls hl => ?_)
  refine lv_iconst (v := 0) hx hb dX8_brokenBy_11 (by decide) ?_
  refine lv_istore hx hb dX8_brokenBy_12 hl (Nat.le_of_ble_eq_true rfl) (lv' := [(5, .int 0), (4, .int 0), (3, .ref (P 43)), (0, .ref (P 51)), (1, .int a1), (2, .int a2)]) rfl (fun ls hl => ?_)
  have hl := lv_sub hl [3, 4, 5, 2, 1, 0] (l' := [(0, .ref (P 51)), (1, .int a1), (2, .int a2), (3, .ref (P 43)), (4, .int 0), (5, .int 0)]) rfl
  exact b_Mind_brokenBy_14 hx hb hml hr hlk hgt hown hK hO hAO 4000 M a1 a2 0 0 H _ ls hl hP hD hS h
set_option maxHeartbeats 4000000 in
set_option maxRecDepth 20000 in
theorem z_Mind_brokenBy (l : Launch) (D : va_G) (cI cZ cC cJ cA : ClassId) (P : Nat → Nat) (s0 : State) (hAO : ∀ q, (aP P 77) q → s0.heap.size ≤ q) (M : Mm) (a1 : Int32) (a2 : Int32) (M' : Mm) (r' : Int32) (h : q_Mind_brokenBy M a1 a2 = some (M', r')) : Met l yX8_brokenBy wsX8_brokenBy ({ frames := 1, cells := 0, slots := 0, locals := 23 }) (va_Pc [.ref (P 51), .int a1, .int a2] (gPre s0 D [(cI, .int), (cZ, .boolean), (cC, .char), (cJ, .long), (cA, .array .int)] (aP P 77) ((wX cI cZ cC cJ cA P) M))) (gQi D (aP P 77) ((wX cI cZ cC cJ cA P) M') r') 0 0 (aP P 77) := by
  refine Met.ofW (cc := cX8_brokenBy) (maxL := 8) (ret := (some .int)) (by decide) rfl ?_
  intro p e s m args below meth c s₁ B hml hv
  obtain ⟨rfl, hP, hK, hD, hO⟩ := hv
  have hx := B.exec
  have hb := B.bytes
  have hr := B.returns
  have hlk := B.notSynchronized
  have hgt := fun w (h : w ∈ GT) => atoms_spec (ws := wsX8_brokenBy) B.pre w (List.mem_cons_of_mem _ h)
  have hown : s.vm.findClass RX8 = some m.cls := findClass_of_methodNamed B.named
  have hS : va_S (aP P 77) s.heap s.heap [] := va_S.rf
  have hl := lv_entry ([.ref (P 51), .int a1, .int a2]) (n := 8) (Nat.le_of_ble_eq_true rfl)
  rw [lg_entry_eq]
  generalize (lg_sl ([.ref (P 51), .int a1, .int a2]) ++ List.replicate (8 - (lg_sl ([.ref (P 51), .int a1, .int a2])).length) Slot.unset).toArray = ls at hl ⊢
  have hl : lv_has ls 8 [(0, .ref (P 51)), (1, .int a1), (2, .int a2)] := hl
  exact b_Mind_brokenBy_0 hx hb hml hr hlk hgt hown hK hO hAO M a1 a2 s.heap [] ls hl hP hD hS h
