section
def q_ChipMap_hasMap  (M : Mm)  : Rs := if (M.1 24 0) ≤ 0 then (some (M, 0)) else (some (M, 1))
set_option maxHeartbeats 4000000 in
set_option maxRecDepth 20000 in
theorem b_ChipMap_hasMap_0 {p : Program} {l : Launch} {e : Env} {s s0 : State} {m : MethodId} {args : Array Value} {below : List Frame} {meth : Method} {c : Code} {D : va_G} {cI cZ cC cJ cA : ClassId} {P : Nat → Nat} {M' : Mm} {r' : Int32}  (hx : p.tables.exec = Jvm.exec) (hb : c.code = cX0_hasMap) (hml : c.maxLocals = 1) (hr : meth.sig.returnType = (some .boolean)) (hlk : meth.locks = false) (hgt : ∀ w ∈ GT, w.before args s = true) (hown : s.vm.findClass RX0 = some m.cls) (hK : va_K D vwCl [(cI, .int), (cZ, .boolean), (cC, .char), (cJ, .long), (cA, .array .int)] s) (hO : Old s0 s) (hAO : ∀ q, (aP P 77) q → s0.heap.size ≤ q)  : ∀ (M : Mm)  (H : Heap) (locs : List Loc) (ls : Array Slot), lv_has ls 1 [(0, .ref (P 0))] → va_P D vwCl ((wX cI cZ cC cJ cA P) M) H → va_D (aP P 77) ((wX cI cZ cC cJ cA P) M) → va_S (aP P 77) s.heap H locs → q_ChipMap_hasMap M = some (M', r') → W p l e ({ frames := 0, cells := 0, slots := 0, locals := 0 }) s m args below meth c H locs 0 0 (MQ below (gQi D (aP P 77) ((wX cI cZ cC cJ cA P) M') r') args s 0 0 (aP P 77)) (F0 m 0 ls []) := by
  intro M H locs ls hl hP hD hS h
  unfold q_ChipMap_hasMap at h
  refine lv_aload_n hx hb dX0_hasMap_0 rfl (lv_at hl 0 rfl) ?_
  refine va_get (D := D) (ci := 0) (v := .ref (P 24)) (C := RX0) (T := TX0) (N := 9) hx hb hgt iwX0 hown hK hP 0 gX_0 rfl 3 (Nat.le_of_ble_eq_true rfl) (hgt _ wd_2_20) (fun _ h9 => h9) rfl dX0_hasMap_1 ?_
  refine va_get (D := D) (ci := 6) (v := .int (M.1 24 0)) (C := RX6) (T := TX6) (N := 13) hx hb hgt iwX6 hown hK hP 24 gX_24 rfl 0 (Nat.le_of_ble_eq_true rfl) (hgt _ wd_1_6) (fun _ h9 => h9) rfl dX0_hasMap_4 ?_
  refine lv_if_le hx hb dX0_hasMap_7 (tgt := 14) rfl (fun hc => ?_) (fun hc => ?_)
  · have h := br_T hc h
    refine lv_iconst (v := 0) hx hb dX0_hasMap_14 (by decide) ?_
    exact rt_z (w := (wX cI cZ cC cJ cA P)) hx hb hr hlk rfl hP hD hS h dX0_hasMap_15
  · have h := br_F hc h
    refine lv_iconst (v := 1) hx hb dX0_hasMap_10 (by decide) ?_
    refine lv_goto hx hb dX0_hasMap_11 (tgt := 15) rfl ?_
    exact rt_z (w := (wX cI cZ cC cJ cA P)) hx hb hr hlk rfl hP hD hS h dX0_hasMap_15
set_option maxHeartbeats 4000000 in
set_option maxRecDepth 20000 in
theorem z_ChipMap_hasMap (l : Launch) (D : va_G) (cI cZ cC cJ cA : ClassId) (P : Nat → Nat) (s0 : State) (hAO : ∀ q, (aP P 77) q → s0.heap.size ≤ q) (M : Mm)  (M' : Mm) (r' : Int32) (h : q_ChipMap_hasMap M = some (M', r')) : Met l yX0_hasMap wsX0_hasMap ({ frames := 0, cells := 0, slots := 0, locals := 0 }) (va_Pc [.ref (P 0)] (gPre s0 D [(cI, .int), (cZ, .boolean), (cC, .char), (cJ, .long), (cA, .array .int)] (aP P 77) ((wX cI cZ cC cJ cA P) M))) (gQi D (aP P 77) ((wX cI cZ cC cJ cA P) M') r') 0 0 (aP P 77) := by
  refine Met.ofW (cc := cX0_hasMap) (maxL := 1) (ret := (some .boolean)) (by decide) rfl ?_
  intro p e s m args below meth c s₁ B hml hv
  obtain ⟨rfl, hP, hK, hD, hO⟩ := hv
  have hx := B.exec
  have hb := B.bytes
  have hr := B.returns
  have hlk := B.notSynchronized
  have hgt := fun w (h : w ∈ GT) => atoms_spec (ws := wsX0_hasMap) B.pre w (List.mem_cons_of_mem _ h)
  have hown : s.vm.findClass RX0 = some m.cls := findClass_of_methodNamed B.named
  have hS : va_S (aP P 77) s.heap s.heap [] := va_S.rf
  have hl := lv_entry ([.ref (P 0)]) (n := 1) (Nat.le_of_ble_eq_true rfl)
  rw [lg_entry_eq]
  generalize (lg_sl ([.ref (P 0)]) ++ List.replicate (1 - (lg_sl ([.ref (P 0)])).length) Slot.unset).toArray = ls at hl ⊢
  have hl : lv_has ls 1 [(0, .ref (P 0))] := hl
  exact b_ChipMap_hasMap_0 hx hb hml hr hlk hgt hown hK hO hAO M s.heap [] ls hl hP hD hS h
def q_ChipMap_reset  (M : Mm)  : Rs := cal (q_ChipMap_hasMap M) fun M1 r2 => if r2 = 0 then (some (M1, 0)) else (cal (q_ChipMap_startAgain M1) fun M3 r4 => some (M3, 1))
set_option maxHeartbeats 4000000 in
set_option maxRecDepth 20000 in
theorem b_ChipMap_reset_0 {p : Program} {l : Launch} {e : Env} {s s0 : State} {m : MethodId} {args : Array Value} {below : List Frame} {meth : Method} {c : Code} {D : va_G} {cI cZ cC cJ cA : ClassId} {P : Nat → Nat} {M' : Mm} {r' : Int32}  (hx : p.tables.exec = Jvm.exec) (hb : c.code = cX0_reset) (hml : c.maxLocals = 1) (hr : meth.sig.returnType = (some .boolean)) (hlk : meth.locks = false) (hgt : ∀ w ∈ GT, w.before args s = true) (hown : s.vm.findClass RX0 = some m.cls) (hK : va_K D vwCl [(cI, .int), (cZ, .boolean), (cC, .char), (cJ, .long), (cA, .array .int)] s) (hO : Old s0 s) (hAO : ∀ q, (aP P 77) q → s0.heap.size ≤ q)  : ∀ (M : Mm)  (H : Heap) (locs : List Loc) (ls : Array Slot), lv_has ls 1 [(0, .ref (P 0))] → va_P D vwCl ((wX cI cZ cC cJ cA P) M) H → va_D (aP P 77) ((wX cI cZ cC cJ cA P) M) → va_S (aP P 77) s.heap H locs → q_ChipMap_reset M = some (M', r') → W p l e ({ frames := 3, cells := 0, slots := 0, locals := 64 }) s m args below meth c H locs 0 0 (MQ below (gQi D (aP P 77) ((wX cI cZ cC cJ cA P) M') r') args s 0 0 (aP P 77)) (F0 m 0 ls []) := by
  intro M H locs ls hl hP hD hS h
  unfold q_ChipMap_reset at h
  refine lv_aload_n hx hb dX0_reset_0 rfl (lv_at hl 0 rfl) ?_
  obtain ⟨M1, r2, hq, h⟩ := cal_o h
  refine cx_i (va_runV (As := []) (rest := []) ⟨hx, hb, hml, hown, hgt⟩ (z_ChipMap_hasMap l D cI cZ cC cJ cA P s0 hAO M M1 r2 hq) (cwV 0 hgt (gV wd_2_81 wd_2_83 sl__ChipMap____ChipMap___hasMap_____Z_____ChipMap___hasMap_____Z__ wd_0_1 wd_2_84) rfl rfl rfl (by decide +kernel) ⟨Nat.le_of_ble_eq_true rfl, Nat.le_of_ble_eq_true rfl⟩) (prV hP hK hD hO hAO hS (va_recv hK hP (ci := 0) (q0 := 0) rfl gX_0)) rfl rfl hl.1 rfl (lv_room (Nat.le_of_ble_eq_true rfl)) dX0_reset_1 ⟨Nat.le_of_ble_eq_true rfl, Nat.le_of_ble_eq_true rfl⟩) hS (fun H locs hP hD hS => ?_)
  refine lv_if_ne hx hb dX0_reset_4 (tgt := 9) rfl (fun hc => ?_) (fun hc => ?_)
  · have h := br_F hc h
    refine lv_aload_n hx hb dX0_reset_9 rfl (lv_at hl 0 rfl) ?_
    obtain ⟨M3, r4, hq, h⟩ := cal_o h
    refine cx_v (va_runV (As := []) (rest := []) ⟨hx, hb, hml, hown, hgt⟩ (z_ChipMap_startAgain l D cI cZ cC cJ cA P s0 hAO M1 M3 r4 hq) (cwV 0 hgt (gV wd_2_85 wd_2_87 sl__ChipMap____ChipMap___startAgain_____V_____ChipMap___startAgain_____V__ wd_0_1 wd_2_88) rfl rfl rfl (by decide +kernel) ⟨Nat.le_of_ble_eq_true rfl, Nat.le_of_ble_eq_true rfl⟩) (prV hP hK hD hO hAO hS (va_recv hK hP (ci := 0) (q0 := 0) rfl gX_0)) rfl rfl hl.1 rfl (lv_room (Nat.le_of_ble_eq_true rfl)) dX0_reset_10 ⟨Nat.le_of_ble_eq_true rfl, Nat.le_of_ble_eq_true rfl⟩) hS (fun H locs hP hD hS => ?_)
    refine lv_iconst (v := 1) hx hb dX0_reset_13 (by decide) ?_
    exact rt_z (w := (wX cI cZ cC cJ cA P)) hx hb hr hlk rfl hP hD hS h dX0_reset_14
  · have h := br_T hc h
    refine lv_iconst (v := 0) hx hb dX0_reset_7 (by decide) ?_
    exact rt_z (w := (wX cI cZ cC cJ cA P)) hx hb hr hlk rfl hP hD hS h dX0_reset_8
set_option maxHeartbeats 4000000 in
set_option maxRecDepth 20000 in
theorem z_ChipMap_reset (l : Launch) (D : va_G) (cI cZ cC cJ cA : ClassId) (P : Nat → Nat) (s0 : State) (hAO : ∀ q, (aP P 77) q → s0.heap.size ≤ q) (M : Mm)  (M' : Mm) (r' : Int32) (h : q_ChipMap_reset M = some (M', r')) : Met l yX0_reset wsX0_reset ({ frames := 3, cells := 0, slots := 0, locals := 64 }) (va_Pc [.ref (P 0)] (gPre s0 D [(cI, .int), (cZ, .boolean), (cC, .char), (cJ, .long), (cA, .array .int)] (aP P 77) ((wX cI cZ cC cJ cA P) M))) (gQi D (aP P 77) ((wX cI cZ cC cJ cA P) M') r') 0 0 (aP P 77) := by
  refine Met.ofW (cc := cX0_reset) (maxL := 1) (ret := (some .boolean)) (by decide) rfl ?_
  intro p e s m args below meth c s₁ B hml hv
  obtain ⟨rfl, hP, hK, hD, hO⟩ := hv
  have hx := B.exec
  have hb := B.bytes
  have hr := B.returns
  have hlk := B.notSynchronized
  have hgt := fun w (h : w ∈ GT) => atoms_spec (ws := wsX0_reset) B.pre w (List.mem_cons_of_mem _ h)
  have hown : s.vm.findClass RX0 = some m.cls := findClass_of_methodNamed B.named
  have hS : va_S (aP P 77) s.heap s.heap [] := va_S.rf
  have hl := lv_entry ([.ref (P 0)]) (n := 1) (Nat.le_of_ble_eq_true rfl)
  rw [lg_entry_eq]
  generalize (lg_sl ([.ref (P 0)]) ++ List.replicate (1 - (lg_sl ([.ref (P 0)])).length) Slot.unset).toArray = ls at hl ⊢
  have hl : lv_has ls 1 [(0, .ref (P 0))] := hl
  exact b_ChipMap_reset_0 hx hb hml hr hlk hgt hown hK hO hAO M s.heap [] ls hl hP hD hS h
def q_Mind_knownValue  (M : Mm) (a1 : Int32) : Rs := ix a1 26 <| ix (M.1 38 (a1 : Int32).toNatClampNeg) 16 <| ix a1 26 <| ix a1 26 <| some (M, ((((M.1 52 ((M.1 38 (a1 : Int32).toNatClampNeg) : Int32).toNatClampNeg) &&& (M.1 42 (a1 : Int32).toNatClampNeg)) : Int32) >>> ((M.1 40 (a1 : Int32).toNatClampNeg) &&& 31)))
set_option maxHeartbeats 4000000 in
set_option maxRecDepth 20000 in
theorem b_Mind_knownValue_0 {p : Program} {l : Launch} {e : Env} {s s0 : State} {m : MethodId} {args : Array Value} {below : List Frame} {meth : Method} {c : Code} {D : va_G} {cI cZ cC cJ cA : ClassId} {P : Nat → Nat} {M' : Mm} {r' : Int32}  (hx : p.tables.exec = Jvm.exec) (hb : c.code = cX8_knownValue) (hml : c.maxLocals = 2) (hr : meth.sig.returnType = (some .int)) (hlk : meth.locks = false) (hgt : ∀ w ∈ GT, w.before args s = true) (hown : s.vm.findClass RX8 = some m.cls) (hK : va_K D vwCl [(cI, .int), (cZ, .boolean), (cC, .char), (cJ, .long), (cA, .array .int)] s) (hO : Old s0 s) (hAO : ∀ q, (aP P 77) q → s0.heap.size ≤ q)  : ∀ (M : Mm) (a1 : Int32) (H : Heap) (locs : List Loc) (ls : Array Slot), lv_has ls 2 [(0, .ref (P 51)), (1, .int a1)] → va_P D vwCl ((wX cI cZ cC cJ cA P) M) H → va_D (aP P 77) ((wX cI cZ cC cJ cA P) M) → va_S (aP P 77) s.heap H locs → q_Mind_knownValue M a1 = some (M', r') → W p l e ({ frames := 0, cells := 0, slots := 0, locals := 0 }) s m args below meth c H locs 0 0 (MQ below (gQi D (aP P 77) ((wX cI cZ cC cJ cA P) M') r') args s 0 0 (aP P 77)) (F0 m 0 ls []) := by
  intro M a1 H locs ls hl hP hD hS h
  unfold q_Mind_knownValue at h
  refine lv_aload_n hx hb dX8_knownValue_0 rfl (lv_at hl 0 rfl) ?_
  refine va_get (D := D) (ci := 8) (v := .ref (P 52)) (C := RX8) (T := TX8) (N := 3) hx hb hgt iwX8 hown hK hP 51 gX_51 rfl 1 (Nat.le_of_ble_eq_true rfl) (hgt _ wd_1_113) (fun _ h9 => h9) rfl dX8_knownValue_1 ?_
  refine lv_aload_n hx hb dX8_knownValue_4 rfl (lv_at hl 0 rfl) ?_
  refine va_get (D := D) (ci := 8) (v := .ref (P 24)) (C := RX8) (T := TX8) (N := 3) hx hb hgt iwX8 hown hK hP 51 gX_51 rfl 0 (Nat.le_of_ble_eq_true rfl) (hgt _ wd_1_112) (fun _ h9 => h9) rfl dX8_knownValue_5 ?_
  refine va_get (D := D) (ci := 6) (v := .ref (P 38)) (C := RX6) (T := TX6) (N := 13) hx hb hgt iwX6 hown hK hP 24 gX_24 rfl 7 (Nat.le_of_ble_eq_true rfl) (hgt _ wd_1_28) (fun _ h9 => h9) rfl dX8_knownValue_8 ?_
  refine lv_iload_n hx hb dX8_knownValue_11 rfl (lv_at hl 1 rfl) ?_
  refine va_iald hx hb hK hP 38 0 gX_38 rfl (ix_l h) dX8_knownValue_12 ?_
  have h := ix_r h
  refine va_iald hx hb hK hP 52 0 gX_52 rfl (ix_l h) dX8_knownValue_13 ?_
  have h := ix_r h
  refine lv_aload_n hx hb dX8_knownValue_14 rfl (lv_at hl 0 rfl) ?_
  refine va_get (D := D) (ci := 8) (v := .ref (P 24)) (C := RX8) (T := TX8) (N := 3) hx hb hgt iwX8 hown hK hP 51 gX_51 rfl 0 (Nat.le_of_ble_eq_true rfl) (hgt _ wd_1_112) (fun _ h9 => h9) rfl dX8_knownValue_15 ?_
  refine va_get (D := D) (ci := 6) (v := .ref (P 42)) (C := RX6) (T := TX6) (N := 13) hx hb hgt iwX6 hown hK hP 24 gX_24 rfl 11 (Nat.le_of_ble_eq_true rfl) (hgt _ wd_1_43) (fun _ h9 => h9) rfl dX8_knownValue_18 ?_
  refine lv_iload_n hx hb dX8_knownValue_21 rfl (lv_at hl 1 rfl) ?_
  refine va_iald hx hb hK hP 42 0 gX_42 rfl (ix_l h) dX8_knownValue_22 ?_
  have h := ix_r h
  refine lv_iand hx hb dX8_knownValue_23 ?_
  refine lv_aload_n hx hb dX8_knownValue_24 rfl (lv_at hl 0 rfl) ?_
  refine va_get (D := D) (ci := 8) (v := .ref (P 24)) (C := RX8) (T := TX8) (N := 3) hx hb hgt iwX8 hown hK hP 51 gX_51 rfl 0 (Nat.le_of_ble_eq_true rfl) (hgt _ wd_1_112) (fun _ h9 => h9) rfl dX8_knownValue_25 ?_
  refine va_get (D := D) (ci := 6) (v := .ref (P 40)) (C := RX6) (T := TX6) (N := 13) hx hb hgt iwX6 hown hK hP 24 gX_24 rfl 9 (Nat.le_of_ble_eq_true rfl) (hgt _ wd_1_36) (fun _ h9 => h9) rfl dX8_knownValue_28 ?_
  refine lv_iload_n hx hb dX8_knownValue_31 rfl (lv_at hl 1 rfl) ?_
  refine va_iald hx hb hK hP 40 0 gX_40 rfl (ix_l h) dX8_knownValue_32 ?_
  have h := ix_r h
  refine lv_ishr hx hb dX8_knownValue_33 ?_
  exact rt_i (w := (wX cI cZ cC cJ cA P)) hx hb hr hlk hP hD hS h dX8_knownValue_34
set_option maxHeartbeats 4000000 in
set_option maxRecDepth 20000 in
theorem z_Mind_knownValue (l : Launch) (D : va_G) (cI cZ cC cJ cA : ClassId) (P : Nat → Nat) (s0 : State) (hAO : ∀ q, (aP P 77) q → s0.heap.size ≤ q) (M : Mm) (a1 : Int32) (M' : Mm) (r' : Int32) (h : q_Mind_knownValue M a1 = some (M', r')) : Met l yX8_knownValue wsX8_knownValue ({ frames := 0, cells := 0, slots := 0, locals := 0 }) (va_Pc [.ref (P 51), .int a1] (gPre s0 D [(cI, .int), (cZ, .boolean), (cC, .char), (cJ, .long), (cA, .array .int)] (aP P 77) ((wX cI cZ cC cJ cA P) M))) (gQi D (aP P 77) ((wX cI cZ cC cJ cA P) M') r') 0 0 (aP P 77) := by
  refine Met.ofW (cc := cX8_knownValue) (maxL := 2) (ret := (some .int)) (by decide) rfl ?_
  intro p e s m args below meth c s₁ B hml hv
  obtain ⟨rfl, hP, hK, hD, hO⟩ := hv
  have hx := B.exec
  have hb := B.bytes
  have hr := B.returns
  have hlk := B.notSynchronized
  have hgt := fun w (h : w ∈ GT) => atoms_spec (ws := wsX8_knownValue) B.pre w (List.mem_cons_of_mem _ h)
  have hown : s.vm.findClass RX8 = some m.cls := findClass_of_methodNamed B.named
  have hS : va_S (aP P 77) s.heap s.heap [] := va_S.rf
  have hl := lv_entry ([.ref (P 51), .int a1]) (n := 2) (Nat.le_of_ble_eq_true rfl)
  rw [lg_entry_eq]
  generalize (lg_sl ([.ref (P 51), .int a1]) ++ List.replicate (2 - (lg_sl ([.ref (P 51), .int a1])).length) Slot.unset).toArray = ls at hl ⊢
  have hl : lv_has ls 2 [(0, .ref (P 51)), (1, .int a1)] := hl
  exact b_Mind_knownValue_0 hx hb hml hr hlk hgt hown hK hO hAO M a1 s.heap [] ls hl hP hD hS h
def q_Mind_isThere  (M : Mm) (a1 : Int32) : Rs := ix a1 16 <| lt' (M.1 26 (a1 : Int32).toNatClampNeg) fun x1 => if x1 = (-1) then (some (M, 1)) else (cal (q_Mind_knownValue M x1) fun M2 r3 => ix a1 16 <| if r3 = (M2.1 27 (a1 : Int32).toNatClampNeg) then (some (M2, 1)) else (some (M2, 0)))
set_option maxHeartbeats 4000000 in
set_option maxRecDepth 20000 in
theorem b_Mind_isThere_0 {p : Program} {l : Launch} {e : Env} {s s0 : State} {m : MethodId} {args : Array Value} {below : List Frame} {meth : Method} {c : Code} {D : va_G} {cI cZ cC cJ cA : ClassId} {P : Nat → Nat} {M' : Mm} {r' : Int32}  (hx : p.tables.exec = Jvm.exec) (hb : c.code = cX8_isThere) (hml : c.maxLocals = 3) (hr : meth.sig.returnType = (some .boolean)) (hlk : meth.locks = false) (hgt : ∀ w ∈ GT, w.before args s = true) (hown : s.vm.findClass RX8 = some m.cls) (hK : va_K D vwCl [(cI, .int), (cZ, .boolean), (cC, .char), (cJ, .long), (cA, .array .int)] s) (hO : Old s0 s) (hAO : ∀ q, (aP P 77) q → s0.heap.size ≤ q)  : ∀ (M : Mm) (a1 : Int32) (H : Heap) (locs : List Loc) (ls : Array Slot), lv_has ls 3 [(0, .ref (P 51)), (1, .int a1)] → va_P D vwCl ((wX cI cZ cC cJ cA P) M) H → va_D (aP P 77) ((wX cI cZ cC cJ cA P) M) → va_S (aP P 77) s.heap H locs → q_Mind_isThere M a1 = some (M', r') → W p l e ({ frames := 1, cells := 0, slots := 0, locals := 21 }) s m args below meth c H locs 0 0 (MQ below (gQi D (aP P 77) ((wX cI cZ cC cJ cA P) M') r') args s 0 0 (aP P 77)) (F0 m 0 ls []) := by
  intro M a1 H locs ls hl hP hD hS h
  unfold q_Mind_isThere at h
  refine lv_aload_n hx hb dX8_isThere_0 rfl (lv_at hl 0 rfl) ?_
  refine va_get (D := D) (ci := 8) (v := .ref (P 24)) (C := RX8) (T := TX8) (N := 3) hx hb hgt iwX8 hown hK hP 51 gX_51 rfl 0 (Nat.le_of_ble_eq_true rfl) (hgt _ wd_1_112) (fun _ h9 => h9) rfl dX8_isThere_1 ?_
  refine va_get (D := D) (ci := 6) (v := .ref (P 26)) (C := RX6) (T := TX6) (N := 13) hx hb hgt iwX6 hown hK hP 24 gX_24 rfl 2 (Nat.le_of_ble_eq_true rfl) (hgt _ wd_1_11) (fun _ h9 => h9) rfl dX8_isThere_4 ?_
  refine lv_iload_n hx hb dX8_isThere_7 rfl (lv_at hl 1 rfl) ?_
  refine va_iald hx hb hK hP 26 0 gX_26 rfl (ix_l h) dX8_isThere_8 ?_
  have h := ix_r h
  refine lv_topi (fun x1 ex1 => ?_)
  have h := lt_o ex1 h
  refine lv_istore_n hx hb dX8_isThere_9 rfl hl (Nat.le_of_ble_eq_true rfl) (lv' := [(2, .int x1), (0, .ref (P 51)), (1, .int a1)]) rfl (fun ls hl => ?_)
  refine lv_iload_n hx hb dX8_isThere_10 rfl (lv_at hl 0 rfl) ?_
  refine lv_iconst (v := (-1)) hx hb dX8_isThere_11 (by decide) ?_
  refine lv_icmp_eq hx hb dX8_isThere_12 (tgt := 32) rfl (fun hc => ?_) (fun hc => ?_)
  · have h := br_T hc h
    refine lv_iconst (v := 1) hx hb dX8_isThere_32 (by decide) ?_
    refine lv_goto hx hb dX8_isThere_33 (tgt := 37) rfl ?_
    exact rt_z (w := (wX cI cZ cC cJ cA P)) hx hb hr hlk rfl hP hD hS h dX8_isThere_37
  · have h := br_F hc h
    refine lv_aload_n hx hb dX8_isThere_15 rfl (lv_at hl 1 rfl) ?_
    refine lv_iload_n hx hb dX8_isThere_16 rfl (lv_at hl 0 rfl) ?_
    obtain ⟨M2, r3, hq, h⟩ := cal_o h
    refine cx_i (va_runV (As := [.int x1]) (rest := []) ⟨hx, hb, hml, hown, hgt⟩ (z_Mind_knownValue l D cI cZ cC cJ cA P s0 hAO M x1 M2 r3 hq) (cwV 1 hgt (gV wd_2_110 wd_2_111 wd_2_112 wd_0_11 wd_2_113) rfl rfl rfl (by decide +kernel) ⟨Nat.le_of_ble_eq_true rfl, Nat.le_of_ble_eq_true rfl⟩) (prV hP hK hD hO hAO hS (va_recv hK hP (ci := 8) (q0 := 51) rfl gX_51)) rfl rfl hl.1 rfl (lv_room (Nat.le_of_ble_eq_true rfl)) dX8_isThere_17 ⟨Nat.le_of_ble_eq_true rfl, Nat.le_of_ble_eq_true rfl⟩) hS (fun H locs hP hD hS => ?_)
    refine lv_aload_n hx hb dX8_isThere_20 rfl (lv_at hl 1 rfl) ?_
    refine va_get (D := D) (ci := 8) (v := .ref (P 24)) (C := RX8) (T := TX8) (N := 3) hx hb hgt iwX8 hown hK hP 51 gX_51 rfl 0 (Nat.le_of_ble_eq_true rfl) (hgt _ wd_1_112) (fun _ h9 => h9) rfl dX8_isThere_21 ?_
    refine va_get (D := D) (ci := 6) (v := .ref (P 27)) (C := RX6) (T := TX6) (N := 13) hx hb hgt iwX6 hown hK hP 24 gX_24 rfl 3 (Nat.le_of_ble_eq_true rfl) (hgt _ wd_1_14) (fun _ h9 => h9) rfl dX8_isThere_24 ?_
    refine lv_iload_n hx hb dX8_isThere_27 rfl (lv_at hl 2 rfl) ?_
    refine va_iald hx hb hK hP 27 0 gX_27 rfl (ix_l h) dX8_isThere_28 ?_
    have h := ix_r h
    refine lv_icmp_ne hx hb dX8_isThere_29 (tgt := 36) rfl (fun hc => ?_) (fun hc => ?_)
    · have h := br_F hc h
      refine lv_iconst (v := 0) hx hb dX8_isThere_36 (by decide) ?_
      exact rt_z (w := (wX cI cZ cC cJ cA P)) hx hb hr hlk rfl hP hD hS h dX8_isThere_37
    · have h := br_T hc h
      refine lv_iconst (v := 1) hx hb dX8_isThere_32 (by decide) ?_
      refine lv_goto hx hb dX8_isThere_33 (tgt := 37) rfl ?_
      exact rt_z (w := (wX cI cZ cC cJ cA P)) hx hb hr hlk rfl hP hD hS h dX8_isThere_37
set_option maxHeartbeats 4000000 in
set_option maxRecDepth 20000 in
theorem z_Mind_isThere (l : Launch) (D : va_G) (cI cZ cC cJ cA : ClassId) (P : Nat → Nat) (s0 : State) (hAO : ∀ q, (aP P 77) q → s0.heap.size ≤ q) (M : Mm) (a1 : Int32) (M' : Mm) (r' : Int32) (h : q_Mind_isThere M a1 = some (M', r')) : Met l yX8_isThere wsX8_isThere ({ frames := 1, cells := 0, slots := 0, locals := 21 }) (va_Pc [.ref (P 51), .int a1] (gPre s0 D [(cI, .int), (cZ, .boolean), (cC, .char), (cJ, .long), (cA, .array .int)] (aP P 77) ((wX cI cZ cC cJ cA P) M))) (gQi D (aP P 77) ((wX cI cZ cC cJ cA P) M') r') 0 0 (aP P 77) := by
  refine Met.ofW (cc := cX8_isThere) (maxL := 3) (ret := (some .boolean)) (by decide) rfl ?_
  intro p e s m args below meth c s₁ B hml hv
  obtain ⟨rfl, hP, hK, hD, hO⟩ := hv
  have hx := B.exec
  have hb := B.bytes
  have hr := B.returns
  have hlk := B.notSynchronized
  have hgt := fun w (h : w ∈ GT) => atoms_spec (ws := wsX8_isThere) B.pre w (List.mem_cons_of_mem _ h)
  have hown : s.vm.findClass RX8 = some m.cls := findClass_of_methodNamed B.named
  have hS : va_S (aP P 77) s.heap s.heap [] := va_S.rf
  have hl := lv_entry ([.ref (P 51), .int a1]) (n := 3) (Nat.le_of_ble_eq_true rfl)
  rw [lg_entry_eq]
  generalize (lg_sl ([.ref (P 51), .int a1]) ++ List.replicate (3 - (lg_sl ([.ref (P 51), .int a1])).length) Slot.unset).toArray = ls at hl ⊢
  have hl : lv_has ls 3 [(0, .ref (P 51)), (1, .int a1)] := hl
  exact b_Mind_isThere_0 hx hb hml hr hlk hgt hown hK hO hAO M a1 s.heap [] ls hl hP hD hS h
def q_Device_registerAt_39 (kf2 : Mm → Int32 → Int32 → Rs) (M : Mm) (v1 : Int32) (v2 : Int32) : Rs := kf2 M v1 (v2 + 1)
def q_Device_registerAt_2  : Nat → Mm → Int32 → Int32 → Rs
  | 0, _, _, _ => none
  | n' + 1, M, v1, v2 => if (M.1 24 0) ≤ v2 then (some (M, (-1))) else (ix v2 16 <| if (M.1 25 (v2 : Int32).toNatClampNeg) = v1 then (cal (q_Mind_isThere M v2) fun M1 r2 => if r2 = 0 then (q_Device_registerAt_39 (q_Device_registerAt_2 n') M1 v1 v2) else (some (M1, v2))) else (q_Device_registerAt_39 (q_Device_registerAt_2 n') M v1 v2))
def q_Device_registerAt  (M : Mm) (a1 : Int32) : Rs := q_Device_registerAt_2 4000 M a1 0
set_option maxHeartbeats 4000000 in
set_option maxRecDepth 20000 in
theorem b_Device_registerAt_39 {p : Program} {l : Launch} {e : Env} {s s0 : State} {m : MethodId} {args : Array Value} {below : List Frame} {meth : Method} {c : Code} {D : va_G} {cI cZ cC cJ cA : ClassId} {P : Nat → Nat} {M' : Mm} {r' : Int32} {kf2 : Mm → Int32 → Int32 → Rs} (hx : p.tables.exec = Jvm.exec) (hb : c.code = cX3_registerAt) (hml : c.maxLocals = 3) (hr : meth.sig.returnType = (some .int)) (hlk : meth.locks = false) (hgt : ∀ w ∈ GT, w.before args s = true) (hown : s.vm.findClass RX3 = some m.cls) (hK : va_K D vwCl [(cI, .int), (cZ, .boolean), (cC, .char), (cJ, .long), (cA, .array .int)] s) (hO : Old s0 s) (hAO : ∀ q, (aP P 77) q → s0.heap.size ≤ q) (kk2 : ∀ (M : Mm) (v1 : Int32) (v2 : Int32) (H : Heap) (locs : List Loc) (ls : Array Slot), lv_has ls 3 [(0, .ref (P 50)), (1, .int v1), (2, .int v2)] → va_P D vwCl ((wX cI cZ cC cJ cA P) M) H → va_D (aP P 77) ((wX cI cZ cC cJ cA P) M) → va_S (aP P 77) s.heap H locs → kf2 M v1 v2 = some (M', r') → W p l e ({ frames := 2, cells := 0, slots := 0, locals := 43 }) s m args below meth c H locs 0 0 (MQ below (gQi D (aP P 77) ((wX cI cZ cC cJ cA P) M') r') args s 0 0 (aP P 77)) (F0 m 2 ls [])) : ∀ (M : Mm) (v1 : Int32) (v2 : Int32) (H : Heap) (locs : List Loc) (ls : Array Slot), lv_has ls 3 [(0, .ref (P 50)), (1, .int v1), (2, .int v2)] → va_P D vwCl ((wX cI cZ cC cJ cA P) M) H → va_D (aP P 77) ((wX cI cZ cC cJ cA P) M) → va_S (aP P 77) s.heap H locs → q_Device_registerAt_39 kf2 M v1 v2 = some (M', r') → W p l e ({ frames := 2, cells := 0, slots := 0, locals := 43 }) s m args below meth c H locs 0 0 (MQ below (gQi D (aP P 77) ((wX cI cZ cC cJ cA P) M') r') args s 0 0 (aP P 77)) (F0 m 39 ls []) := by
  intro M v1 v2 H locs ls hl hP hD hS h
  unfold q_Device_registerAt_39 at h
  refine lv_iinc (v := (v2 + 1)) hx hb dX3_registerAt_39 hl (k := 2) rfl rfl (Nat.le_of_ble_eq_true rfl) (lv' := [(2, .int (v2 + 1)), (0, .ref (P 50)), (1, .int v1)]) rfl (fun ls hl => ?_)
  refine lv_goto hx hb dX3_registerAt_42 (tgt := 2) rfl ?_
  have hl := lv_sub hl [1, 2, 0] (l' := [(0, .ref (P 50)), (1, .int v1), (2, .int (v2 + 1))]) rfl
  exact kk2 M v1 (v2 + 1) H locs ls hl hP hD hS h
set_option maxHeartbeats 4000000 in
set_option maxRecDepth 20000 in
theorem b_Device_registerAt_2 {p : Program} {l : Launch} {e : Env} {s s0 : State} {m : MethodId} {args : Array Value} {below : List Frame} {meth : Method} {c : Code} {D : va_G} {cI cZ cC cJ cA : ClassId} {P : Nat → Nat} {M' : Mm} {r' : Int32}  (hx : p.tables.exec = Jvm.exec) (hb : c.code = cX3_registerAt) (hml : c.maxLocals = 3) (hr : meth.sig.returnType = (some .int)) (hlk : meth.locks = false) (hgt : ∀ w ∈ GT, w.before args s = true) (hown : s.vm.findClass RX3 = some m.cls) (hK : va_K D vwCl [(cI, .int), (cZ, .boolean), (cC, .char), (cJ, .long), (cA, .array .int)] s) (hO : Old s0 s) (hAO : ∀ q, (aP P 77) q → s0.heap.size ≤ q)  : ∀ (n' : Nat) (M : Mm) (v1 : Int32) (v2 : Int32) (H : Heap) (locs : List Loc) (ls : Array Slot), lv_has ls 3 [(0, .ref (P 50)), (1, .int v1), (2, .int v2)] → va_P D vwCl ((wX cI cZ cC cJ cA P) M) H → va_D (aP P 77) ((wX cI cZ cC cJ cA P) M) → va_S (aP P 77) s.heap H locs → q_Device_registerAt_2 n' M v1 v2 = some (M', r') → W p l e ({ frames := 2, cells := 0, slots := 0, locals := 43 }) s m args below meth c H locs 0 0 (MQ below (gQi D (aP P 77) ((wX cI cZ cC cJ cA P) M') r') args s 0 0 (aP P 77)) (F0 m 2 ls []) := by
  intro n'
  induction n' with
  | zero => exact fun _ _ _ _ _ _ _ _ _ _ h => (rs_n h).elim
  | succ n' ih =>
    intro M v1 v2 H locs ls hl hP hD hS h
    rw [q_Device_registerAt_2] at h
    refine lv_iload_n hx hb dX3_registerAt_2 rfl (lv_at hl 2 rfl) ?_
    refine lv_aload_n hx hb dX3_registerAt_3 rfl (lv_at hl 0 rfl) ?_
    refine va_get (D := D) (ci := 3) (v := .ref (P 24)) (C := RX3) (T := TX3) (N := 7) hx hb hgt iwX3 hown hK hP 50 gX_50 rfl 0 (Nat.le_of_ble_eq_true rfl) (hgt _ wd_1_126) (fun _ h9 => h9) rfl dX3_registerAt_4 ?_
    refine va_get (D := D) (ci := 6) (v := .int (M.1 24 0)) (C := RX6) (T := TX6) (N := 13) hx hb hgt iwX6 hown hK hP 24 gX_24 rfl 0 (Nat.le_of_ble_eq_true rfl) (hgt _ wd_1_5) (fun _ h9 => h9) rfl dX3_registerAt_7 ?_
    refine lv_icmp_ge hx hb dX3_registerAt_10 (tgt := 45) rfl (fun hc => ?_) (fun hc => ?_)
    · have h := br_T hc h
      refine lv_iconst (v := (-1)) hx hb dX3_registerAt_45 (by decide) ?_
      exact rt_i (w := (wX cI cZ cC cJ cA P)) hx hb hr hlk hP hD hS h dX3_registerAt_46
    · have h := br_F hc h
      refine lv_aload_n hx hb dX3_registerAt_13 rfl (lv_at hl 0 rfl) ?_
      refine va_get (D := D) (ci := 3) (v := .ref (P 24)) (C := RX3) (T := TX3) (N := 7) hx hb hgt iwX3 hown hK hP 50 gX_50 rfl 0 (Nat.le_of_ble_eq_true rfl) (hgt _ wd_1_126) (fun _ h9 => h9) rfl dX3_registerAt_14 ?_
      refine va_get (D := D) (ci := 6) (v := .ref (P 25)) (C := RX6) (T := TX6) (N := 13) hx hb hgt iwX6 hown hK hP 24 gX_24 rfl 1 (Nat.le_of_ble_eq_true rfl) (hgt _ wd_1_9) (fun _ h9 => h9) rfl dX3_registerAt_17 ?_
      refine lv_iload_n hx hb dX3_registerAt_20 rfl (lv_at hl 2 rfl) ?_
      refine va_iald hx hb hK hP 25 0 gX_25 rfl (ix_l h) dX3_registerAt_21 ?_
      have h := ix_r h
      refine lv_iload_n hx hb dX3_registerAt_22 rfl (lv_at hl 1 rfl) ?_
      refine lv_icmp_ne hx hb dX3_registerAt_23 (tgt := 39) rfl (fun hc => ?_) (fun hc => ?_)
      · have h := br_F hc h
        have hl := lv_sub hl [0, 1, 2] (l' := [(0, .ref (P 50)), (1, .int v1), (2, .int v2)]) rfl
        exact b_Device_registerAt_39 hx hb hml hr hlk hgt hown hK hO hAO ih M v1 v2 H _ ls hl hP hD hS h
      · have h := br_T hc h
        refine lv_aload_n hx hb dX3_registerAt_26 rfl (lv_at hl 0 rfl) ?_
        refine va_get (D := D) (ci := 3) (v := .ref (P 51)) (C := RX3) (T := TX3) (N := 7) hx hb hgt iwX3 hown hK hP 50 gX_50 rfl 1 (Nat.le_of_ble_eq_true rfl) (hgt _ wd_1_127) (fun _ h9 => h9) rfl dX3_registerAt_27 ?_
        refine lv_iload_n hx hb dX3_registerAt_30 rfl (lv_at hl 2 rfl) ?_
        obtain ⟨M1, r2, hq, h⟩ := cal_o h
        refine cx_i (va_runV (As := [.int v2]) (rest := []) ⟨hx, hb, hml, hown, hgt⟩ (z_Mind_isThere l D cI cZ cC cJ cA P s0 hAO M v2 M1 r2 hq) (cwV 1 hgt (gV wd_2_106 wd_2_107 wd_2_108 wd_0_11 wd_2_109) rfl rfl rfl (by decide +kernel) ⟨Nat.le_of_ble_eq_true rfl, Nat.le_of_ble_eq_true rfl⟩) (prV hP hK hD hO hAO hS (va_recv hK hP (ci := 8) (q0 := 51) rfl gX_51)) rfl rfl hl.1 rfl (lv_room (Nat.le_of_ble_eq_true rfl)) dX3_registerAt_31 ⟨Nat.le_of_ble_eq_true rfl, Nat.le_of_ble_eq_true rfl⟩) hS (fun H locs hP hD hS => ?_)
        refine lv_if_eq hx hb dX3_registerAt_34 (tgt := 39) rfl (fun hc => ?_) (fun hc => ?_)
        · have h := br_T hc h
          have hl := lv_sub hl [0, 1, 2] (l' := [(0, .ref (P 50)), (1, .int v1), (2, .int v2)]) rfl
          exact b_Device_registerAt_39 hx hb hml hr hlk hgt hown hK hO hAO ih M1 v1 v2 H _ ls hl hP hD hS h
        · have h := br_F hc h
          refine lv_iload_n hx hb dX3_registerAt_37 rfl (lv_at hl 2 rfl) ?_
          exact rt_i (w := (wX cI cZ cC cJ cA P)) hx hb hr hlk hP hD hS h dX3_registerAt_38
set_option maxHeartbeats 4000000 in
set_option maxRecDepth 20000 in
theorem b_Device_registerAt_0 {p : Program} {l : Launch} {e : Env} {s s0 : State} {m : MethodId} {args : Array Value} {below : List Frame} {meth : Method} {c : Code} {D : va_G} {cI cZ cC cJ cA : ClassId} {P : Nat → Nat} {M' : Mm} {r' : Int32}  (hx : p.tables.exec = Jvm.exec) (hb : c.code = cX3_registerAt) (hml : c.maxLocals = 3) (hr : meth.sig.returnType = (some .int)) (hlk : meth.locks = false) (hgt : ∀ w ∈ GT, w.before args s = true) (hown : s.vm.findClass RX3 = some m.cls) (hK : va_K D vwCl [(cI, .int), (cZ, .boolean), (cC, .char), (cJ, .long), (cA, .array .int)] s) (hO : Old s0 s) (hAO : ∀ q, (aP P 77) q → s0.heap.size ≤ q)  : ∀ (M : Mm) (a1 : Int32) (H : Heap) (locs : List Loc) (ls : Array Slot), lv_has ls 3 [(0, .ref (P 50)), (1, .int a1)] → va_P D vwCl ((wX cI cZ cC cJ cA P) M) H → va_D (aP P 77) ((wX cI cZ cC cJ cA P) M) → va_S (aP P 77) s.heap H locs → q_Device_registerAt M a1 = some (M', r') → W p l e ({ frames := 2, cells := 0, slots := 0, locals := 43 }) s m args below meth c H locs 0 0 (MQ below (gQi D (aP P 77) ((wX cI cZ cC cJ cA P) M') r') args s 0 0 (aP P 77)) (F0 m 0 ls []) := by
  intro M a1 H locs ls hl hP hD hS h
  unfold q_Device_registerAt at h
  refine lv_iconst (v := 0) hx hb dX3_registerAt_0 (by decide) ?_
  refine lv_istore_n hx hb dX3_registerAt_1 rfl hl (Nat.le_of_ble_eq_true rfl) (lv' := [(2, .int 0), (0, .ref (P 50)), (1, .int a1)]) rfl (fun ls hl => ?_)
  have hl := lv_sub hl [1, 2, 0] (l' := [(0, .ref (P 50)), (1, .int a1), (2, .int 0)]) rfl
  exact b_Device_registerAt_2 hx hb hml hr hlk hgt hown hK hO hAO 4000 M a1 0 H _ ls hl hP hD hS h
set_option maxHeartbeats 4000000 in
set_option maxRecDepth 20000 in
theorem z_Device_registerAt (l : Launch) (D : va_G) (cI cZ cC cJ cA : ClassId) (P : Nat → Nat) (s0 : State) (hAO : ∀ q, (aP P 77) q → s0.heap.size ≤ q) (M : Mm) (a1 : Int32) (M' : Mm) (r' : Int32) (h : q_Device_registerAt M a1 = some (M', r')) : Met l yX3_registerAt wsX3_registerAt ({ frames := 2, cells := 0, slots := 0, locals := 43 }) (va_Pc [.ref (P 50), .int a1] (gPre s0 D [(cI, .int), (cZ, .boolean), (cC, .char), (cJ, .long), (cA, .array .int)] (aP P 77) ((wX cI cZ cC cJ cA P) M))) (gQi D (aP P 77) ((wX cI cZ cC cJ cA P) M') r') 0 0 (aP P 77) := by
  refine Met.ofW (cc := cX3_registerAt) (maxL := 3) (ret := (some .int)) (by decide) rfl ?_
  intro p e s m args below meth c s₁ B hml hv
  obtain ⟨rfl, hP, hK, hD, hO⟩ := hv
  have hx := B.exec
  have hb := B.bytes
  have hr := B.returns
  have hlk := B.notSynchronized
  have hgt := fun w (h : w ∈ GT) => atoms_spec (ws := wsX3_registerAt) B.pre w (List.mem_cons_of_mem _ h)
  have hown : s.vm.findClass RX3 = some m.cls := findClass_of_methodNamed B.named
  have hS : va_S (aP P 77) s.heap s.heap [] := va_S.rf
  have hl := lv_entry ([.ref (P 50), .int a1]) (n := 3) (Nat.le_of_ble_eq_true rfl)
  rw [lg_entry_eq]
  generalize (lg_sl ([.ref (P 50), .int a1]) ++ List.replicate (3 - (lg_sl ([.ref (P 50), .int a1])).length) Slot.unset).toArray = ls at hl ⊢
  have hl : lv_has ls 3 [(0, .ref (P 50)), (1, .int a1)] := hl
  exact b_Device_registerAt_0 hx hb hml hr hlk hgt hown hK hO hAO M a1 s.heap [] ls hl hP hD hS h
def q_Mind_isWritten  (M : Mm) (a1 : Int32) (a2 : Int32) (a3 : Int32) : Rs := ix a1 26 <| if (M.1 38 (a1 : Int32).toNatClampNeg) = a2 then (ix a2 16 <| ix a1 26 <| if ((a3 ^^^ (M.1 52 (a2 : Int32).toNatClampNeg)) &&& (M.1 42 (a1 : Int32).toNatClampNeg)) = 0 then (some (M, 0)) else (some (M, 1))) else (some (M, 0))
set_option maxHeartbeats 4000000 in
set_option maxRecDepth 20000 in
theorem b_Mind_isWritten_0 {p : Program} {l : Launch} {e : Env} {s s0 : State} {m : MethodId} {args : Array Value} {below : List Frame} {meth : Method} {c : Code} {D : va_G} {cI cZ cC cJ cA : ClassId} {P : Nat → Nat} {M' : Mm} {r' : Int32}  (hx : p.tables.exec = Jvm.exec) (hb : c.code = cX8_isWritten) (hml : c.maxLocals = 4) (hr : meth.sig.returnType = (some .boolean)) (hlk : meth.locks = false) (hgt : ∀ w ∈ GT, w.before args s = true) (hown : s.vm.findClass RX8 = some m.cls) (hK : va_K D vwCl [(cI, .int), (cZ, .boolean), (cC, .char), (cJ, .long), (cA, .array .int)] s) (hO : Old s0 s) (hAO : ∀ q, (aP P 77) q → s0.heap.size ≤ q)  : ∀ (M : Mm) (a1 : Int32) (a2 : Int32) (a3 : Int32) (H : Heap) (locs : List Loc) (ls : Array Slot), lv_has ls 4 [(0, .ref (P 51)), (1, .int a1), (2, .int a2), (3, .int a3)] → va_P D vwCl ((wX cI cZ cC cJ cA P) M) H → va_D (aP P 77) ((wX cI cZ cC cJ cA P) M) → va_S (aP P 77) s.heap H locs → q_Mind_isWritten M a1 a2 a3 = some (M', r') → W p l e ({ frames := 0, cells := 0, slots := 0, locals := 0 }) s m args below meth c H locs 0 0 (MQ below (gQi D (aP P 77) ((wX cI cZ cC cJ cA P) M') r') args s 0 0 (aP P 77)) (F0 m 0 ls []) := by
  intro M a1 a2 a3 H locs ls hl hP hD hS h
  unfold q_Mind_isWritten at h
  refine lv_aload_n hx hb dX8_isWritten_0 rfl (lv_at hl 0 rfl) ?_
  refine va_get (D := D) (ci := 8) (v := .ref (P 24)) (C := RX8) (T := TX8) (N := 3) hx hb hgt iwX8 hown hK hP 51 gX_51 rfl 0 (Nat.le_of_ble_eq_true rfl) (hgt _ wd_1_112) (fun _ h9 => h9) rfl dX8_isWritten_1 ?_
  refine va_get (D := D) (ci := 6) (v := .ref (P 38)) (C := RX6) (T := TX6) (N := 13) hx hb hgt iwX6 hown hK hP 24 gX_24 rfl 7 (Nat.le_of_ble_eq_true rfl) (hgt _ wd_1_28) (fun _ h9 => h9) rfl dX8_isWritten_4 ?_
  refine lv_iload_n hx hb dX8_isWritten_7 rfl (lv_at hl 1 rfl) ?_
  refine va_iald hx hb hK hP 38 0 gX_38 rfl (ix_l h) dX8_isWritten_8 ?_
  have h := ix_r h
  refine lv_iload_n hx hb dX8_isWritten_9 rfl (lv_at hl 2 rfl) ?_
  refine lv_icmp_eq hx hb dX8_isWritten_10 (tgt := 15) rfl (fun hc => ?_) (fun hc => ?_)
  · have h := br_T hc h
    refine lv_iload_n hx hb dX8_isWritten_15 rfl (lv_at hl 3 rfl) ?_
    refine lv_aload_n hx hb dX8_isWritten_16 rfl (lv_at hl 0 rfl) ?_
    refine va_get (D := D) (ci := 8) (v := .ref (P 52)) (C := RX8) (T := TX8) (N := 3) hx hb hgt iwX8 hown hK hP 51 gX_51 rfl 1 (Nat.le_of_ble_eq_true rfl) (hgt _ wd_1_113) (fun _ h9 => h9) rfl dX8_isWritten_17 ?_
    refine lv_iload_n hx hb dX8_isWritten_20 rfl (lv_at hl 2 rfl) ?_
    refine va_iald hx hb hK hP 52 0 gX_52 rfl (ix_l h) dX8_isWritten_21 ?_
    have h := ix_r h
    refine lv_ixor hx hb dX8_isWritten_22 ?_
    refine lv_aload_n hx hb dX8_isWritten_23 rfl (lv_at hl 0 rfl) ?_
    refine va_get (D := D) (ci := 8) (v := .ref (P 24)) (C := RX8) (T := TX8) (N := 3) hx hb hgt iwX8 hown hK hP 51 gX_51 rfl 0 (Nat.le_of_ble_eq_true rfl) (hgt _ wd_1_112) (fun _ h9 => h9) rfl dX8_isWritten_24 ?_
    refine va_get (D := D) (ci := 6) (v := .ref (P 42)) (C := RX6) (T := TX6) (N := 13) hx hb hgt iwX6 hown hK hP 24 gX_24 rfl 11 (Nat.le_of_ble_eq_true rfl) (hgt _ wd_1_43) (fun _ h9 => h9) rfl dX8_isWritten_27 ?_
    refine lv_iload_n hx hb dX8_isWritten_30 rfl (lv_at hl 1 rfl) ?_
    refine va_iald hx hb hK hP 42 0 gX_42 rfl (ix_l h) dX8_isWritten_31 ?_
    have h := ix_r h
    refine lv_iand hx hb dX8_isWritten_32 ?_
    refine lv_if_eq hx hb dX8_isWritten_33 (tgt := 40) rfl (fun hc => ?_) (fun hc => ?_)
    · have h := br_T hc h
      refine lv_iconst (v := 0) hx hb dX8_isWritten_40 (by decide) ?_
      exact rt_z (w := (wX cI cZ cC cJ cA P)) hx hb hr hlk rfl hP hD hS h dX8_isWritten_41
    · have h := br_F hc h
      refine lv_iconst (v := 1) hx hb dX8_isWritten_36 (by decide) ?_
      refine lv_goto hx hb dX8_isWritten_37 (tgt := 41) rfl ?_
      exact rt_z (w := (wX cI cZ cC cJ cA P)) hx hb hr hlk rfl hP hD hS h dX8_isWritten_41
  · have h := br_F hc h
    refine lv_iconst (v := 0) hx hb dX8_isWritten_13 (by decide) ?_
    exact rt_z (w := (wX cI cZ cC cJ cA P)) hx hb hr hlk rfl hP hD hS h dX8_isWritten_14
set_option maxHeartbeats 4000000 in
set_option maxRecDepth 20000 in
theorem z_Mind_isWritten (l : Launch) (D : va_G) (cI cZ cC cJ cA : ClassId) (P : Nat → Nat) (s0 : State) (hAO : ∀ q, (aP P 77) q → s0.heap.size ≤ q) (M : Mm) (a1 : Int32) (a2 : Int32) (a3 : Int32) (M' : Mm) (r' : Int32) (h : q_Mind_isWritten M a1 a2 a3 = some (M', r')) : Met l yX8_isWritten wsX8_isWritten ({ frames := 0, cells := 0, slots := 0, locals := 0 }) (va_Pc [.ref (P 51), .int a1, .int a2, .int a3] (gPre s0 D [(cI, .int), (cZ, .boolean), (cC, .char), (cJ, .long), (cA, .array .int)] (aP P 77) ((wX cI cZ cC cJ cA P) M))) (gQi D (aP P 77) ((wX cI cZ cC cJ cA P) M') r') 0 0 (aP P 77) := by
  refine Met.ofW (cc := cX8_isWritten) (maxL := 4) (ret := (some .boolean)) (by decide) rfl ?_
  intro p e s m args below meth c s₁ B hml hv
  obtain ⟨rfl, hP, hK, hD, hO⟩ := hv
  have hx := B.exec
  have hb := B.bytes
  have hr := B.returns
  have hlk := B.notSynchronized
  have hgt := fun w (h : w ∈ GT) => atoms_spec (ws := wsX8_isWritten) B.pre w (List.mem_cons_of_mem _ h)
  have hown : s.vm.findClass RX8 = some m.cls := findClass_of_methodNamed B.named
  have hS : va_S (aP P 77) s.heap s.heap [] := va_S.rf
  have hl := lv_entry ([.ref (P 51), .int a1, .int a2, .int a3]) (n := 4) (Nat.le_of_ble_eq_true rfl)
  rw [lg_entry_eq]
  generalize (lg_sl ([.ref (P 51), .int a1, .int a2, .int a3]) ++ List.replicate (4 - (lg_sl ([.ref (P 51), .int a1, .int a2, .int a3])).length) Slot.unset).toArray = ls at hl ⊢
  have hl : lv_has ls 4 [(0, .ref (P 51)), (1, .int a1), (2, .int a2), (3, .int a3)] := hl
  exact b_Mind_isWritten_0 hx hb hml hr hlk hgt hown hK hO hAO M a1 a2 a3 s.heap [] ls hl hP hD hS h
def q_Mind_brokenBy_184 (kf14 : Mm → Int32 → Int32 → Int32 → Int32 → Rs) (M : Mm) (v1 : Int32) (v2 : Int32) (v4 : Int32) (v5 : Int32) : Rs := kf14 M v1 v2 v4 (v5 + 1)
def q_Mind_brokenBy_170 (kf14 : Mm → Int32 → Int32 → Int32 → Int32 → Rs) (M : Mm) (v1 : Int32) (v2 : Int32) (v4 : Int32) (v5 : Int32) (v7 : Int32) : Rs := if v7 = 0 then (q_Mind_brokenBy_184 kf14 M v1 v2 v4 v5) else (lt' (v4 ||| ((1 : Int32) <<< (v5 &&& 31))) fun x1 => q_Mind_brokenBy_184 kf14 M v1 v2 x1 v5)
def q_Mind_brokenBy_168 (kf14 : Mm → Int32 → Int32 → Int32 → Int32 → Rs) (M : Mm) (v1 : Int32) (v2 : Int32) (v4 : Int32) (v5 : Int32) (t0 : Int32) : Rs := q_Mind_brokenBy_170 kf14 M v1 v2 v4 v5 t0
def q_Mind_brokenBy_167 (kf14 : Mm → Int32 → Int32 → Int32 → Int32 → Rs) (M : Mm) (v1 : Int32) (v2 : Int32) (v4 : Int32) (v5 : Int32) : Rs := q_Mind_brokenBy_168 kf14 M v1 v2 v4 v5 0
def q_Mind_brokenBy_121 (kf14 : Mm → Int32 → Int32 → Int32 → Int32 → Rs) (M : Mm) (v1 : Int32) (v2 : Int32) (v4 : Int32) (v5 : Int32) (t0 : Int32) : Rs := q_Mind_brokenBy_170 kf14 M v1 v2 v4 v5 t0
def q_Mind_brokenBy_120 (kf14 : Mm → Int32 → Int32 → Int32 → Int32 → Rs) (M : Mm) (v1 : Int32) (v2 : Int32) (v4 : Int32) (v5 : Int32) : Rs := q_Mind_brokenBy_121 kf14 M v1 v2 v4 v5 0
def q_Mind_brokenBy_79 (kf14 : Mm → Int32 → Int32 → Int32 → Int32 → Rs) (M : Mm) (v1 : Int32) (v2 : Int32) (v4 : Int32) (v5 : Int32) (t0 : Int32) : Rs := q_Mind_brokenBy_170 kf14 M v1 v2 v4 v5 t0
def q_Mind_brokenBy_78 (kf14 : Mm → Int32 → Int32 → Int32 → Int32 → Rs) (M : Mm) (v1 : Int32) (v2 : Int32) (v4 : Int32) (v5 : Int32) : Rs := q_Mind_brokenBy_79 kf14 M v1 v2 v4 v5 0
def q_Mind_brokenBy_41 (kf14 : Mm → Int32 → Int32 → Int32 → Int32 → Rs) (M : Mm) (v1 : Int32) (v2 : Int32) (v4 : Int32) (v5 : Int32) (t0 : Int32) : Rs := ix v5 12 <| if (M.1 44 (v5 : Int32).toNatClampNeg) = 0 then (if t0 = 0 then (ix v5 12 <| cal (q_Mind_isWritten M (M.1 46 (v5 : Int32).toNatClampNeg) v1 v2) fun M1 r2 => if r2 = 0 then (q_Mind_brokenBy_78 kf14 M1 v1 v2 v4 v5) else (q_Mind_brokenBy_79 kf14 M1 v1 v2 v4 v5 1)) else (q_Mind_brokenBy_78 kf14 M v1 v2 v4 v5)) else (ix v5 12 <| if (M.1 44 (v5 : Int32).toNatClampNeg) = 2 then (if t0 = 0 then (q_Mind_brokenBy_120 kf14 M v1 v2 v4 v5) else (ix v5 12 <| cal (q_Mind_isWritten M (M.1 45 (v5 : Int32).toNatClampNeg) v1 v2) fun M1 r2 => if r2 = 0 then (q_Mind_brokenBy_120 kf14 M1 v1 v2 v4 v5) else (q_Mind_brokenBy_121 kf14 M1 v1 v2 v4 v5 1))) else (ix v5 12 <| cal (q_Mind_isWritten M (M.1 45 (v5 : Int32).toNatClampNeg) v1 v2) fun M1 r2 => if r2 = 0 then (q_Mind_brokenBy_167 kf14 M1 v1 v2 v4 v5) else (ix v5 12 <| cal (q_Mind_knownValue M1 (M1.1 46 (v5 : Int32).toNatClampNeg)) fun M3 r4 => ix v5 12 <| if r4 = (M3.1 47 (v5 : Int32).toNatClampNeg) then (q_Mind_brokenBy_167 kf14 M3 v1 v2 v4 v5) else (q_Mind_brokenBy_168 kf14 M3 v1 v2 v4 v5 1))))
def q_Mind_brokenBy_14  : Nat → Mm → Int32 → Int32 → Int32 → Int32 → Rs
  | 0, _, _, _, _, _ => none
  | n' + 1, M, v1, v2, v4, v5 => if (M.1 43 0) ≤ v5 then (some (M, v4)) else (if ((((M.1 51 2) : Int32) >>> (v5 &&& 31)) &&& 1) = 1 then (q_Mind_brokenBy_41 (q_Mind_brokenBy_14 n') M v1 v2 v4 v5 1) else (q_Mind_brokenBy_41 (q_Mind_brokenBy_14 n') M v1 v2 v4 v5 0))
def q_Mind_brokenBy  (M : Mm) (a1 : Int32) (a2 : Int32) : Rs := q_Mind_brokenBy_14 4000 M a1 a2 0 0
set_option maxHeartbeats 4000000 in
set_option maxRecDepth 20000 in
theorem b_Mind_brokenBy_184 {p : Program} {l : Launch} {e : Env} {s s0 : State} {m : MethodId} {args : Array Value} {below : List Frame} {meth : Method} {c : Code} {D : va_G} {cI cZ cC cJ cA : ClassId} {P : Nat → Nat} {M' : Mm} {r' : Int32} {kf14 : Mm → Int32 → Int32 → Int32 → Int32 → Rs} (hx : p.tables.exec = Jvm.exec) (hb : c.code = cX8_brokenBy) (hml : c.maxLocals = 8) (hr : meth.sig.returnType = (some .int)) (hlk : meth.locks = false) (hgt : ∀ w ∈ GT, w.before args s = true) (hown : s.vm.findClass RX8 = some m.cls) (hK : va_K D vwCl [(cI, .int), (cZ, .boolean), (cC, .char), (cJ, .long), (cA, .array .int)] s) (hO : Old s0 s) (hAO : ∀ q, (aP P 77) q → s0.heap.size ≤ q) (kk14 : ∀ (M : Mm) (v1 : Int32) (v2 : Int32) (v4 : Int32) (v5 : Int32) (H : Heap) (locs : List Loc) (ls : Array Slot), lv_has ls 8 [(0, .ref (P 51)), (1, .int v1), (2, .int v2), (3, .ref (P 43)), (4, .int v4), (5, .int v5)] → va_P D vwCl ((wX cI cZ cC cJ cA P) M) H → va_D (aP P 77) ((wX cI cZ cC cJ cA P) M) → va_S (aP P 77) s.heap H locs → kf14 M v1 v2 v4 v5 = some (M', r') → W p l e ({ frames := 1, cells := 0, slots := 0, locals := 23 }) s m args below meth c H locs 0 0 (MQ below (gQi D (aP P 77) ((wX cI cZ cC cJ cA P) M') r') args s 0 0 (aP P 77)) (F0 m 14 ls [])) : ∀ (M : Mm) (v1 : Int32) (v2 : Int32) (v4 : Int32) (v5 : Int32) (H : Heap) (locs : List Loc) (ls : Array Slot), lv_has ls 8 [(0, .ref (P 51)), (1, .int v1), (2, .int v2), (3, .ref (P 43)), (4, .int v4), (5, .int v5)] → va_P D vwCl ((wX cI cZ cC cJ cA P) M) H → va_D (aP P 77) ((wX cI cZ cC cJ cA P) M) → va_S (aP P 77) s.heap H locs → q_Mind_brokenBy_184 kf14 M v1 v2 v4 v5 = some (M', r') → W p l e ({ frames := 1, cells := 0, slots := 0, locals := 23 }) s m args below meth c H locs 0 0 (MQ below (gQi D (aP P 77) ((wX cI cZ cC cJ cA P) M') r') args s 0 0 (aP P 77)) (F0 m 184 ls []) := by
  intro M v1 v2 v4 v5 H locs ls hl hP hD hS h
  unfold q_Mind_brokenBy_184 at h
  refine lv_iinc (v := (v5 + 1)) hx hb dX8_brokenBy_184 hl (k := 5) rfl rfl (Nat.le_of_ble_eq_true rfl) (lv' := [(5, .int (v5 + 1)), (0, .ref (P 51)), (1, .int v1), (2, .int v2), (3, .ref (P 43)), (4, .int v4)]) rfl (fun ls hl => ?_)
  refine lv_goto hx hb dX8_brokenBy_187 (tgt := 14) rfl ?_
  have hl := lv_sub hl [1, 2, 3, 4, 5, 0] (l' := [(0, .ref (P 51)), (1, .int v1), (2, .int v2), (3, .ref (P 43)), (4, .int v4), (5, .int (v5 + 1))]) rfl
  exact kk14 M v1 v2 v4 (v5 + 1) H locs ls hl hP hD hS h
set_option maxHeartbeats 4000000 in
set_option maxRecDepth 20000 in
theorem b_Mind_brokenBy_170 {p : Program} {l : Launch} {e : Env} {s s0 : State} {m : MethodId} {args : Array Value} {below : List Frame} {meth : Method} {c : Code} {D : va_G} {cI cZ cC cJ cA : ClassId} {P : Nat → Nat} {M' : Mm} {r' : Int32} {kf14 : Mm → Int32 → Int32 → Int32 → Int32 → Rs} (hx : p.tables.exec = Jvm.exec) (hb : c.code = cX8_brokenBy) (hml : c.maxLocals = 8) (hr : meth.sig.returnType = (some .int)) (hlk : meth.locks = false) (hgt : ∀ w ∈ GT, w.before args s = true) (hown : s.vm.findClass RX8 = some m.cls) (hK : va_K D vwCl [(cI, .int), (cZ, .boolean), (cC, .char), (cJ, .long), (cA, .array .int)] s) (hO : Old s0 s) (hAO : ∀ q, (aP P 77) q → s0.heap.size ≤ q) (kk14 : ∀ (M : Mm) (v1 : Int32) (v2 : Int32) (v4 : Int32) (v5 : Int32) (H : Heap) (locs : List Loc) (ls : Array Slot), lv_has ls 8 [(0, .ref (P 51)), (1, .int v1), (2, .int v2), (3, .ref (P 43)), (4, .int v4), (5, .int v5)] → va_P D vwCl ((wX cI cZ cC cJ cA P) M) H → va_D (aP P 77) ((wX cI cZ cC cJ cA P) M) → va_S (aP P 77) s.heap H locs → kf14 M v1 v2 v4 v5 = some (M', r') → W p l e ({ frames := 1, cells := 0, slots := 0, locals := 23 }) s m args below meth c H locs 0 0 (MQ below (gQi D (aP P 77) ((wX cI cZ cC cJ cA P) M') r') args s 0 0 (aP P 77)) (F0 m 14 ls [])) : ∀ (M : Mm) (v1 : Int32) (v2 : Int32) (v4 : Int32) (v5 : Int32) (v7 : Int32) (H : Heap) (locs : List Loc) (ls : Array Slot), lv_has ls 8 [(0, .ref (P 51)), (1, .int v1), (2, .int v2), (3, .ref (P 43)), (4, .int v4), (5, .int v5), (7, .int v7)] → va_P D vwCl ((wX cI cZ cC cJ cA P) M) H → va_D (aP P 77) ((wX cI cZ cC cJ cA P) M) → va_S (aP P 77) s.heap H locs → q_Mind_brokenBy_170 kf14 M v1 v2 v4 v5 v7 = some (M', r') → W p l e ({ frames := 1, cells := 0, slots := 0, locals := 23 }) s m args below meth c H locs 0 0 (MQ below (gQi D (aP P 77) ((wX cI cZ cC cJ cA P) M') r') args s 0 0 (aP P 77)) (F0 m 170 ls []) := by
  intro M v1 v2 v4 v5 v7 H locs ls hl hP hD hS h
  unfold q_Mind_brokenBy_170 at h
  refine lv_iload hx hb dX8_brokenBy_170 (lv_at hl 6 rfl) ?_
  refine lv_if_eq hx hb dX8_brokenBy_172 (tgt := 184) rfl (fun hc => ?_) (fun hc => ?_)
  · have h := br_T hc h
    have hl := lv_sub hl [0, 1, 2, 3, 4, 5] (l' := [(0, .ref (P 51)), (1, .int v1), (2, .int v2), (3, .ref (P 43)), (4, .int v4), (5, .int v5)]) rfl
    exact b_Mind_brokenBy_184 hx hb hml hr hlk hgt hown hK hO hAO kk14 M v1 v2 v4 v5 H _ ls hl hP hD hS h
  · have h := br_F hc h
    refine lv_iload hx hb dX8_brokenBy_175 (lv_at hl 4 rfl) ?_
    refine lv_iconst (v := 1) hx hb dX8_brokenBy_177 (by decide) ?_
    refine lv_iload hx hb dX8_brokenBy_178 (lv_at hl 5 rfl) ?_
    refine lv_ishl hx hb dX8_brokenBy_180 ?_
    refine lv_ior hx hb dX8_brokenBy_181 ?_
    refine lv_topi (fun x1 ex1 => ?_)
    have h := lt_o ex1 h
    refine lv_istore hx hb dX8_brokenBy_182 hl (Nat.le_of_ble_eq_true rfl) (lv' := [(4, .int x1), (0, .ref (P 51)), (1, .int v1), (2, .int v2), (3, .ref (P 43)), (5, .int v5), (7, .int v7)]) rfl (fun ls hl => ?_)
    have hl := lv_sub hl [1, 2, 3, 4, 0, 5] (l' := [(0, .ref (P 51)), (1, .int v1), (2, .int v2), (3, .ref (P 43)), (4, .int x1), (5, .int v5)]) rfl
    exact b_Mind_brokenBy_184 hx hb hml hr hlk hgt hown hK hO hAO kk14 M v1 v2 x1 v5 H _ ls hl hP hD hS h
set_option maxHeartbeats 4000000 in
set_option maxRecDepth 20000 in
theorem b_Mind_brokenBy_168 {p : Program} {l : Launch} {e : Env} {s s0 : State} {m : MethodId} {args : Array Value} {below : List Frame} {meth : Method} {c : Code} {D : va_G} {cI cZ cC cJ cA : ClassId} {P : Nat → Nat} {M' : Mm} {r' : Int32} {kf14 : Mm → Int32 → Int32 → Int32 → Int32 → Rs} (hx : p.tables.exec = Jvm.exec) (hb : c.code = cX8_brokenBy) (hml : c.maxLocals = 8) (hr : meth.sig.returnType = (some .int)) (hlk : meth.locks = false) (hgt : ∀ w ∈ GT, w.before args s = true) (hown : s.vm.findClass RX8 = some m.cls) (hK : va_K D vwCl [(cI, .int), (cZ, .boolean), (cC, .char), (cJ, .long), (cA, .array .int)] s) (hO : Old s0 s) (hAO : ∀ q, (aP P 77) q → s0.heap.size ≤ q) (kk14 : ∀ (M : Mm) (v1 : Int32) (v2 : Int32) (v4 : Int32) (v5 : Int32) (H : Heap) (locs : List Loc) (ls : Array Slot), lv_has ls 8 [(0, .ref (P 51)), (1, .int v1), (2, .int v2), (3, .ref (P 43)), (4, .int v4), (5, .int v5)] → va_P D vwCl ((wX cI cZ cC cJ cA P) M) H → va_D (aP P 77) ((wX cI cZ cC cJ cA P) M) → va_S (aP P 77) s.heap H locs → kf14 M v1 v2 v4 v5 = some (M', r') → W p l e ({ frames := 1, cells := 0, slots := 0, locals := 23 }) s m args below meth c H locs 0 0 (MQ below (gQi D (aP P 77) ((wX cI cZ cC cJ cA P) M') r') args s 0 0 (aP P 77)) (F0 m 14 ls [])) : ∀ (M : Mm) (v1 : Int32) (v2 : Int32) (v4 : Int32) (v5 : Int32) (t0 : Int32) (H : Heap) (locs : List Loc) (ls : Array Slot), lv_has ls 8 [(0, .ref (P 51)), (1, .int v1), (2, .int v2), (3, .ref (P 43)), (4, .int v4), (5, .int v5)] → va_P D vwCl ((wX cI cZ cC cJ cA P) M) H → va_D (aP P 77) ((wX cI cZ cC cJ cA P) M) → va_S (aP P 77) s.heap H locs → q_Mind_brokenBy_168 kf14 M v1 v2 v4 v5 t0 = some (M', r') → W p l e ({ frames := 1, cells := 0, slots := 0, locals := 23 }) s m args below meth c H locs 0 0 (MQ below (gQi D (aP P 77) ((wX cI cZ cC cJ cA P) M') r') args s 0 0 (aP P 77)) (F0 m 168 ls [.int t0]) := by
  intro M v1 v2 v4 v5 t0 H locs ls hl hP hD hS h
  unfold q_Mind_brokenBy_168 at h
  refine lv_istore hx hb dX8_brokenBy_168 hl (Nat.le_of_ble_eq_true rfl) (lv' := [(7, .int t0), (0, .ref (P 51)), (1, .int v1), (2, .int v2), (3, .ref (P 43)), (4, .int v4), (5, .int v5)]) rfl (fun ls hl => ?_)
  have hl := lv_sub hl [1, 2, 3, 4, 5, 6, 0] (l' := [(0, .ref (P 51)), (1, .int v1), (2, .int v2), (3, .ref (P 43)), (4, .int v4), (5, .int v5), (7, .int t0)]) rfl
  exact b_Mind_brokenBy_170 hx hb hml hr hlk hgt hown hK hO hAO kk14 M v1 v2 v4 v5 t0 H _ ls hl hP hD hS h
set_option maxHeartbeats 4000000 in
set_option maxRecDepth 20000 in
theorem b_Mind_brokenBy_167 {p : Program} {l : Launch} {e : Env} {s s0 : State} {m : MethodId} {args : Array Value} {below : List Frame} {meth : Method} {c : Code} {D : va_G} {cI cZ cC cJ cA : ClassId} {P : Nat → Nat} {M' : Mm} {r' : Int32} {kf14 : Mm → Int32 → Int32 → Int32 → Int32 → Rs} (hx : p.tables.exec = Jvm.exec) (hb : c.code = cX8_brokenBy) (hml : c.maxLocals = 8) (hr : meth.sig.returnType = (some .int)) (hlk : meth.locks = false) (hgt : ∀ w ∈ GT, w.before args s = true) (hown : s.vm.findClass RX8 = some m.cls) (hK : va_K D vwCl [(cI, .int), (cZ, .boolean), (cC, .char), (cJ, .long), (cA, .array .int)] s) (hO : Old s0 s) (hAO : ∀ q, (aP P 77) q → s0.heap.size ≤ q) (kk14 : ∀ (M : Mm) (v1 : Int32) (v2 : Int32) (v4 : Int32) (v5 : Int32) (H : Heap) (locs : List Loc) (ls : Array Slot), lv_has ls 8 [(0, .ref (P 51)), (1, .int v1), (2, .int v2), (3, .ref (P 43)), (4, .int v4), (5, .int v5)] → va_P D vwCl ((wX cI cZ cC cJ cA P) M) H → va_D (aP P 77) ((wX cI cZ cC cJ cA P) M) → va_S (aP P 77) s.heap H locs → kf14 M v1 v2 v4 v5 = some (M', r') → W p l e ({ frames := 1, cells := 0, slots := 0, locals := 23 }) s m args below meth c H locs 0 0 (MQ below (gQi D (aP P 77) ((wX cI cZ cC cJ cA P) M') r') args s 0 0 (aP P 77)) (F0 m 14 ls [])) : ∀ (M : Mm) (v1 : Int32) (v2 : Int32) (v4 : Int32) (v5 : Int32) (H : Heap) (locs : List Loc) (ls : Array Slot), lv_has ls 8 [(0, .ref (P 51)), (1, .int v1), (2, .int v2), (3, .ref (P 43)), (4, .int v4), (5, .int v5)] → va_P D vwCl ((wX cI cZ cC cJ cA P) M) H → va_D (aP P 77) ((wX cI cZ cC cJ cA P) M) → va_S (aP P 77) s.heap H locs → q_Mind_brokenBy_167 kf14 M v1 v2 v4 v5 = some (M', r') → W p l e ({ frames := 1, cells := 0, slots := 0, locals := 23 }) s m args below meth c H locs 0 0 (MQ below (gQi D (aP P 77) ((wX cI cZ cC cJ cA P) M') r') args s 0 0 (aP P 77)) (F0 m 167 ls []) := by
  intro M v1 v2 v4 v5 H locs ls hl hP hD hS h
  unfold q_Mind_brokenBy_167 at h
  refine lv_iconst (v := 0) hx hb dX8_brokenBy_167 (by decide) ?_
  have hl := lv_sub hl [0, 1, 2, 3, 4, 5] (l' := [(0, .ref (P 51)), (1, .int v1), (2, .int v2), (3, .ref (P 43)), (4, .int v4), (5, .int v5)]) rfl
  exact b_Mind_brokenBy_168 hx hb hml hr hlk hgt hown hK hO hAO kk14 M v1 v2 v4 v5 0 H _ ls hl hP hD hS h
set_option maxHeartbeats 4000000 in
set_option maxRecDepth 20000 in
theorem b_Mind_brokenBy_121 {p : Program} {l : Launch} {e : Env} {s s0 : State} {m : MethodId} {args : Array Value} {below : List Frame} {meth : Method} {c : Code} {D : va_G} {cI cZ cC cJ cA : ClassId} {P : Nat → Nat} {M' : Mm} {r' : Int32} {kf14 : Mm → Int32 → Int32 → Int32 → Int32 → Rs} (hx : p.tables.exec = Jvm.exec) (hb : c.code = cX8_brokenBy) (hml : c.maxLocals = 8) (hr : meth.sig.returnType = (some .int)) (hlk : meth.locks = false) (hgt : ∀ w ∈ GT, w.before args s = true) (hown : s.vm.findClass RX8 = some m.cls) (hK : va_K D vwCl [(cI, .int), (cZ, .boolean), (cC, .char), (cJ, .long), (cA, .array .int)] s) (hO : Old s0 s) (hAO : ∀ q, (aP P 77) q → s0.heap.size ≤ q) (kk14 : ∀ (M : Mm) (v1 : Int32) (v2 : Int32) (v4 : Int32) (v5 : Int32) (H : Heap) (locs : List Loc) (ls : Array Slot), lv_has ls 8 [(0, .ref (P 51)), (1, .int v1), (2, .int v2), (3, .ref (P 43)), (4, .int v4), (5, .int v5)] → va_P D vwCl ((wX cI cZ cC cJ cA P) M) H → va_D (aP P 77) ((wX cI cZ cC cJ cA P) M) → va_S (aP P 77) s.heap H locs → kf14 M v1 v2 v4 v5 = some (M', r') → W p l e ({ frames := 1, cells := 0, slots := 0, locals := 23 }) s m args below meth c H locs 0 0 (MQ below (gQi D (aP P 77) ((wX cI cZ cC cJ cA P) M') r') args s 0 0 (aP P 77)) (F0 m 14 ls [])) : ∀ (M : Mm) (v1 : Int32) (v2 : Int32) (v4 : Int32) (v5 : Int32) (t0 : Int32) (H : Heap) (locs : List Loc) (ls : Array Slot), lv_has ls 8 [(0, .ref (P 51)), (1, .int v1), (2, .int v2), (3, .ref (P 43)), (4, .int v4), (5, .int v5)] → va_P D vwCl ((wX cI cZ cC cJ cA P) M) H → va_D (aP P 77) ((wX cI cZ cC cJ cA P) M) → va_S (aP P 77) s.heap H locs → q_Mind_brokenBy_121 kf14 M v1 v2 v4 v5 t0 = some (M', r') → W p l e ({ frames := 1, cells := 0, slots := 0, locals := 23 }) s m args below meth c H locs 0 0 (MQ below (gQi D (aP P 77) ((wX cI cZ cC cJ cA P) M') r') args s 0 0 (aP P 77)) (F0 m 121 ls [.int t0]) := by
  intro M v1 v2 v4 v5 t0 H locs ls hl hP hD hS h
  unfold q_Mind_brokenBy_121 at h
  refine lv_istore hx hb dX8_brokenBy_121 hl (Nat.le_of_ble_eq_true rfl) (lv' := [(7, .int t0), (0, .ref (P 51)), (1, .int v1), (2, .int v2), (3, .ref (P 43)), (4, .int v4), (5, .int v5)]) rfl (fun ls hl => ?_)
  refine lv_goto hx hb dX8_brokenBy_123 (tgt := 170) rfl ?_
  have hl := lv_sub hl [1, 2, 3, 4, 5, 6, 0] (l' := [(0, .ref (P 51)), (1, .int v1), (2, .int v2), (3, .ref (P 43)), (4, .int v4), (5, .int v5), (7, .int t0)]) rfl
  exact b_Mind_brokenBy_170 hx hb hml hr hlk hgt hown hK hO hAO kk14 M v1 v2 v4 v5 t0 H _ ls hl hP hD hS h
set_option maxHeartbeats 4000000 in
set_option maxRecDepth 20000 in
theorem b_Mind_brokenBy_120 {p : Program} {l : Launch} {e : Env} {s s0 : State} {m : MethodId} {args : Array Value} {below : List Frame} {meth : Method} {c : Code} {D : va_G} {cI cZ cC cJ cA : ClassId} {P : Nat → Nat} {M' : Mm} {r' : Int32} {kf14 : Mm → Int32 → Int32 → Int32 → Int32 → Rs} (hx : p.tables.exec = Jvm.exec) (hb : c.code = cX8_brokenBy) (hml : c.maxLocals = 8) (hr : meth.sig.returnType = (some .int)) (hlk : meth.locks = false) (hgt : ∀ w ∈ GT, w.before args s = true) (hown : s.vm.findClass RX8 = some m.cls) (hK : va_K D vwCl [(cI, .int), (cZ, .boolean), (cC, .char), (cJ, .long), (cA, .array .int)] s) (hO : Old s0 s) (hAO : ∀ q, (aP P 77) q → s0.heap.size ≤ q) (kk14 : ∀ (M : Mm) (v1 : Int32) (v2 : Int32) (v4 : Int32) (v5 : Int32) (H : Heap) (locs : List Loc) (ls : Array Slot), lv_has ls 8 [(0, .ref (P 51)), (1, .int v1), (2, .int v2), (3, .ref (P 43)), (4, .int v4), (5, .int v5)] → va_P D vwCl ((wX cI cZ cC cJ cA P) M) H → va_D (aP P 77) ((wX cI cZ cC cJ cA P) M) → va_S (aP P 77) s.heap H locs → kf14 M v1 v2 v4 v5 = some (M', r') → W p l e ({ frames := 1, cells := 0, slots := 0, locals := 23 }) s m args below meth c H locs 0 0 (MQ below (gQi D (aP P 77) ((wX cI cZ cC cJ cA P) M') r') args s 0 0 (aP P 77)) (F0 m 14 ls [])) : ∀ (M : Mm) (v1 : Int32) (v2 : Int32) (v4 : Int32) (v5 : Int32) (H : Heap) (locs : List Loc) (ls : Array Slot), lv_has ls 8 [(0, .ref (P 51)), (1, .int v1), (2, .int v2), (3, .ref (P 43)), (4, .int v4), (5, .int v5)] → va_P D vwCl ((wX cI cZ cC cJ cA P) M) H → va_D (aP P 77) ((wX cI cZ cC cJ cA P) M) → va_S (aP P 77) s.heap H locs → q_Mind_brokenBy_120 kf14 M v1 v2 v4 v5 = some (M', r') → W p l e ({ frames := 1, cells := 0, slots := 0, locals := 23 }) s m args below meth c H locs 0 0 (MQ below (gQi D (aP P 77) ((wX cI cZ cC cJ cA P) M') r') args s 0 0 (aP P 77)) (F0 m 120 ls []) := by
  intro M v1 v2 v4 v5 H locs ls hl hP hD hS h
  unfold q_Mind_brokenBy_120 at h
  refine lv_iconst (v := 0) hx hb dX8_brokenBy_120 (by decide) ?_
  have hl := lv_sub hl [0, 1, 2, 3, 4, 5] (l' := [(0, .ref (P 51)), (1, .int v1), (2, .int v2), (3, .ref (P 43)), (4, .int v4), (5, .int v5)]) rfl
  exact b_Mind_brokenBy_121 hx hb hml hr hlk hgt hown hK hO hAO kk14 M v1 v2 v4 v5 0 H _ ls hl hP hD hS h
set_option maxHeartbeats 4000000 in
set_option maxRecDepth 20000 in
theorem b_Mind_brokenBy_79 {p : Program} {l : Launch} {e : Env} {s s0 : State} {m : MethodId} {args : Array Value} {below : List Frame} {meth : Method} {c : Code} {D : va_G} {cI cZ cC cJ cA : ClassId} {P : Nat → Nat} {M' : Mm} {r' : Int32} {kf14 : Mm → Int32 → Int32 → Int32 → Int32 → Rs} (hx : p.tables.exec = Jvm.exec) (hb : c.code = cX8_brokenBy) (hml : c.maxLocals = 8) (hr : meth.sig.returnType = (some .int)) (hlk : meth.locks = false) (hgt : ∀ w ∈ GT, w.before args s = true) (hown : s.vm.findClass RX8 = some m.cls) (hK : va_K D vwCl [(cI, .int), (cZ, .boolean), (cC, .char), (cJ, .long), (cA, .array .int)] s) (hO : Old s0 s) (hAO : ∀ q, (aP P 77) q → s0.heap.size ≤ q) (kk14 : ∀ (M : Mm) (v1 : Int32) (v2 : Int32) (v4 : Int32) (v5 : Int32) (H : Heap) (locs : List Loc) (ls : Array Slot), lv_has ls 8 [(0, .ref (P 51)), (1, .int v1), (2, .int v2), (3, .ref (P 43)), (4, .int v4), (5, .int v5)] → va_P D vwCl ((wX cI cZ cC cJ cA P) M) H → va_D (aP P 77) ((wX cI cZ cC cJ cA P) M) → va_S (aP P 77) s.heap H locs → kf14 M v1 v2 v4 v5 = some (M', r') → W p l e ({ frames := 1, cells := 0, slots := 0, locals := 23 }) s m args below meth c H locs 0 0 (MQ below (gQi D (aP P 77) ((wX cI cZ cC cJ cA P) M') r') args s 0 0 (aP P 77)) (F0 m 14 ls [])) : ∀ (M : Mm) (v1 : Int32) (v2 : Int32) (v4 : Int32) (v5 : Int32) (t0 : Int32) (H : Heap) (locs : List Loc) (ls : Array Slot), lv_has ls 8 [(0, .ref (P 51)), (1, .int v1), (2, .int v2), (3, .ref (P 43)), (4, .int v4), (5, .int v5)] → va_P D vwCl ((wX cI cZ cC cJ cA P) M) H → va_D (aP P 77) ((wX cI cZ cC cJ cA P) M) → va_S (aP P 77) s.heap H locs → q_Mind_brokenBy_79 kf14 M v1 v2 v4 v5 t0 = some (M', r') → W p l e ({ frames := 1, cells := 0, slots := 0, locals := 23 }) s m args below meth c H locs 0 0 (MQ below (gQi D (aP P 77) ((wX cI cZ cC cJ cA P) M') r') args s 0 0 (aP P 77)) (F0 m 79 ls [.int t0]) := by
  intro M v1 v2 v4 v5 t0 H locs ls hl hP hD hS h
  unfold q_Mind_brokenBy_79 at h
  refine lv_istore hx hb dX8_brokenBy_79 hl (Nat.le_of_ble_eq_true rfl) (lv' := [(7, .int t0), (0, .ref (P 51)), (1, .int v1), (2, .int v2), (3, .ref (P 43)), (4, .int v4), (5, .int v5)]) rfl (fun ls hl => ?_)
  refine lv_goto hx hb dX8_brokenBy_81 (tgt := 170) rfl ?_
  have hl := lv_sub hl [1, 2, 3, 4, 5, 6, 0] (l' := [(0, .ref (P 51)), (1, .int v1), (2, .int v2), (3, .ref (P 43)), (4, .int v4), (5, .int v5), (7, .int t0)]) rfl
  exact b_Mind_brokenBy_170 hx hb hml hr hlk hgt hown hK hO hAO kk14 M v1 v2 v4 v5 t0 H _ ls hl hP hD hS h
set_option maxHeartbeats 4000000 in
set_option maxRecDepth 20000 in
theorem b_Mind_brokenBy_78 {p : Program} {l : Launch} {e : Env} {s s0 : State} {m : MethodId} {args : Array Value} {below : List Frame} {meth : Method} {c : Code} {D : va_G} {cI cZ cC cJ cA : ClassId} {P : Nat → Nat} {M' : Mm} {r' : Int32} {kf14 : Mm → Int32 → Int32 → Int32 → Int32 → Rs} (hx : p.tables.exec = Jvm.exec) (hb : c.code = cX8_brokenBy) (hml : c.maxLocals = 8) (hr : meth.sig.returnType = (some .int)) (hlk : meth.locks = false) (hgt : ∀ w ∈ GT, w.before args s = true) (hown : s.vm.findClass RX8 = some m.cls) (hK : va_K D vwCl [(cI, .int), (cZ, .boolean), (cC, .char), (cJ, .long), (cA, .array .int)] s) (hO : Old s0 s) (hAO : ∀ q, (aP P 77) q → s0.heap.size ≤ q) (kk14 : ∀ (M : Mm) (v1 : Int32) (v2 : Int32) (v4 : Int32) (v5 : Int32) (H : Heap) (locs : List Loc) (ls : Array Slot), lv_has ls 8 [(0, .ref (P 51)), (1, .int v1), (2, .int v2), (3, .ref (P 43)), (4, .int v4), (5, .int v5)] → va_P D vwCl ((wX cI cZ cC cJ cA P) M) H → va_D (aP P 77) ((wX cI cZ cC cJ cA P) M) → va_S (aP P 77) s.heap H locs → kf14 M v1 v2 v4 v5 = some (M', r') → W p l e ({ frames := 1, cells := 0, slots := 0, locals := 23 }) s m args below meth c H locs 0 0 (MQ below (gQi D (aP P 77) ((wX cI cZ cC cJ cA P) M') r') args s 0 0 (aP P 77)) (F0 m 14 ls [])) : ∀ (M : Mm) (v1 : Int32) (v2 : Int32) (v4 : Int32) (v5 : Int32) (H : Heap) (locs : List Loc) (ls : Array Slot), lv_has ls 8 [(0, .ref (P 51)), (1, .int v1), (2, .int v2), (3, .ref (P 43)), (4, .int v4), (5, .int v5)] → va_P D vwCl ((wX cI cZ cC cJ cA P) M) H → va_D (aP P 77) ((wX cI cZ cC cJ cA P) M) → va_S (aP P 77) s.heap H locs → q_Mind_brokenBy_78 kf14 M v1 v2 v4 v5 = some (M', r') → W p l e ({ frames := 1, cells := 0, slots := 0, locals := 23 }) s m args below meth c H locs 0 0 (MQ below (gQi D (aP P 77) ((wX cI cZ cC cJ cA P) M') r') args s 0 0 (aP P 77)) (F0 m 78 ls []) := by
  intro M v1 v2 v4 v5 H locs ls hl hP hD hS h
  unfold q_Mind_brokenBy_78 at h
  refine lv_iconst (v := 0) hx hb dX8_brokenBy_78 (by decide) ?_
  have hl := lv_sub hl [0, 1, 2, 3, 4, 5] (l' := [(0, .ref (P 51)), (1, .int v1), (2, .int v2), (3, .ref (P 43)), (4, .int v4), (5, .int v5)]) rfl
  exact b_Mind_brokenBy_79 hx hb hml hr hlk hgt hown hK hO hAO kk14 M v1 v2 v4 v5 0 H _ ls hl hP hD hS h
set_option maxHeartbeats 4000000 in
set_option maxRecDepth 20000 in
theorem b_Mind_brokenBy_41 {p : Program} {l : Launch} {e : Env} {s s0 : State} {m : MethodId} {args : Array Value} {below : List Frame} {meth : Method} {c : Code} {D : va_G} {cI cZ cC cJ cA : ClassId} {P : Nat → Nat} {M' : Mm} {r' : Int32} {kf14 : Mm → Int32 → Int32 → Int32 → Int32 → Rs} (hx : p.tables.exec = Jvm.exec) (hb : c.code = cX8_brokenBy) (hml : c.maxLocals = 8) (hr : meth.sig.returnType = (some .int)) (hlk : meth.locks = false) (hgt : ∀ w ∈ GT, w.before args s = true) (hown : s.vm.findClass RX8 = some m.cls) (hK : va_K D vwCl [(cI, .int), (cZ, .boolean), (cC, .char), (cJ, .long), (cA, .array .int)] s) (hO : Old s0 s) (hAO : ∀ q, (aP P 77) q → s0.heap.size ≤ q) (kk14 : ∀ (M : Mm) (v1 : Int32) (v2 : Int32) (v4 : Int32) (v5 : Int32) (H : Heap) (locs : List Loc) (ls : Array Slot), lv_has ls 8 [(0, .ref (P 51)), (1, .int v1), (2, .int v2), (3, .ref (P 43)), (4, .int v4), (5, .int v5)] → va_P D vwCl ((wX cI cZ cC cJ cA P) M) H → va_D (aP P 77) ((wX cI cZ cC cJ cA P) M) → va_S (aP P 77) s.heap H locs → kf14 M v1 v2 v4 v5 = some (M', r') → W p l e ({ frames := 1, cells := 0, slots := 0, locals := 23 }) s m args below meth c H locs 0 0 (MQ below (gQi D (aP P 77) ((wX cI cZ cC cJ cA P) M') r') args s 0 0 (aP P 77)) (F0 m 14 ls [])) : ∀ (M : Mm) (v1 : Int32) (v2 : Int32) (v4 : Int32) (v5 : Int32) (t0 : Int32) (H : Heap) (locs : List Loc) (ls : Array Slot), lv_has ls 8 [(0, .ref (P 51)), (1, .int v1), (2, .int v2), (3, .ref (P 43)), (4, .int v4), (5, .int v5)] → va_P D vwCl ((wX cI cZ cC cJ cA P) M) H → va_D (aP P 77) ((wX cI cZ cC cJ cA P) M) → va_S (aP P 77) s.heap H locs → q_Mind_brokenBy_41 kf14 M v1 v2 v4 v5 t0 = some (M', r') → W p l e ({ frames := 1, cells := 0, slots := 0, locals := 23 }) s m args below meth c H locs 0 0 (MQ below (gQi D (aP P 77) ((wX cI cZ cC cJ cA P) M') r') args s 0 0 (aP P 77)) (F0 m 41 ls [.int t0]) := by
  intro M v1 v2 v4 v5 t0 H locs ls hl hP hD hS h
  unfold q_Mind_brokenBy_41 at h
  refine lv_istore hx hb dX8_brokenBy_41 hl (Nat.le_of_ble_eq_true rfl) (lv' := [(6, .int t0), (0, .ref (P 51)), (1, .int v1), (2, .int v2), (3, .ref (P 43)), (4, .int v4), (5, .int v5)]) rfl (fun ls hl => ?_)
  refine lv_aload_n hx hb dX8_brokenBy_43 rfl (lv_at hl 4 rfl) ?_
  refine va_get (D := D) (ci := 11) (v := .ref (P 44)) (C := RX11) (T := TX11) (N := 7) hx hb hgt iwX11 hown hK hP 43 gX_43 rfl 1 (Nat.le_of_ble_eq_true rfl) (hgt _ wd_0_56) (fun _ h9 => h9) rfl dX8_brokenBy_44 ?_
  refine lv_iload hx hb dX8_brokenBy_47 (lv_at hl 6 rfl) ?_
  refine va_iald hx hb hK hP 44 0 gX_44 rfl (ix_l h) dX8_brokenBy_49 ?_
  have h := ix_r h
  refine lv_if_ne hx hb dX8_brokenBy_50 (tgt := 84) rfl (fun hc => ?_) (fun hc => ?_)
  · have h := br_F hc h
    refine lv_aload_n hx hb dX8_brokenBy_84 rfl (lv_at hl 4 rfl) ?_
    refine va_get (D := D) (ci := 11) (v := .ref (P 44)) (C := RX11) (T := TX11) (N := 7) hx hb hgt iwX11 hown hK hP 43 gX_43 rfl 1 (Nat.le_of_ble_eq_true rfl) (hgt _ wd_0_56) (fun _ h9 => h9) rfl dX8_brokenBy_85 ?_
    refine lv_iload hx hb dX8_brokenBy_88 (lv_at hl 6 rfl) ?_
    refine va_iald hx hb hK hP 44 0 gX_44 rfl (ix_l h) dX8_brokenBy_90 ?_
    have h := ix_r h
    refine lv_iconst (v := 2) hx hb dX8_brokenBy_91 (by decide) ?_
    refine lv_icmp_ne hx hb dX8_brokenBy_92 (tgt := 126) rfl (fun hc => ?_) (fun hc => ?_)
    · have h := br_F hc h
      refine lv_aload_n hx hb dX8_brokenBy_126 rfl (lv_at hl 1 rfl) ?_
      refine lv_aload_n hx hb dX8_brokenBy_127 rfl (lv_at hl 4 rfl) ?_
      refine va_get (D := D) (ci := 11) (v := .ref (P 45)) (C := RX11) (T := TX11) (N := 7) hx hb hgt iwX11 hown hK hP 43 gX_43 rfl 2 (Nat.le_of_ble_eq_true rfl) (hgt _ wd_0_60) (fun _ h9 => h9) rfl dX8_brokenBy_128 ?_
      refine lv_iload hx hb dX8_brokenBy_131 (lv_at hl 6 rfl) ?_
      refine va_iald hx hb hK hP 45 0 gX_45 rfl (ix_l h) dX8_brokenBy_133 ?_
      have h := ix_r h
      refine lv_iload_n hx hb dX8_brokenBy_134 rfl (lv_at hl 2 rfl) ?_
      refine lv_iload_n hx hb dX8_brokenBy_135 rfl (lv_at hl 3 rfl) ?_
      obtain ⟨M1, r2, hq, h⟩ := cal_o h
      refine cx_i (va_runV (As := [.int (M.1 45 (v5 : Int32).toNatClampNeg), .int v1, .int v2]) (rest := []) ⟨hx, hb, hml, hown, hgt⟩ (z_Mind_isWritten l D cI cZ cC cJ cA P s0 hAO M (M.1 45 (v5 : Int32).toNatClampNeg) v1 v2 M1 r2 hq) (cwV 3 hgt (gV wd_2_119 wd_2_121 sl__ChipMap_Mind____ChipMap_Mind___isWritten____III_Z_____ChipMap_Mind___isWritten____III_Z__ wd_0_11 wd_2_122) rfl rfl rfl (by decide +kernel) ⟨Nat.le_of_ble_eq_true rfl, Nat.le_of_ble_eq_true rfl⟩) (prV hP hK hD hO hAO hS (va_recv hK hP (ci := 8) (q0 := 51) rfl gX_51)) rfl rfl hl.1 rfl (lv_room (Nat.le_of_ble_eq_true rfl)) dX8_brokenBy_136 ⟨Nat.le_of_ble_eq_true rfl, Nat.le_of_ble_eq_true rfl⟩) hS (fun H locs hP hD hS => ?_)
      refine lv_if_eq hx hb dX8_brokenBy_139 (tgt := 167) rfl (fun hc => ?_) (fun hc => ?_)
      · have h := br_T hc h
        have hl := lv_sub hl [1, 2, 3, 4, 5, 6] (l' := [(0, .ref (P 51)), (1, .int v1), (2, .int v2), (3, .ref (P 43)), (4, .int v4), (5, .int v5)]) rfl
        exact b_Mind_brokenBy_167 hx hb hml hr hlk hgt hown hK hO hAO kk14 M1 v1 v2 v4 v5 H _ ls hl hP hD hS h
      · have h := br_F hc h
        refine lv_aload_n hx hb dX8_brokenBy_142 rfl (lv_at hl 1 rfl) ?_
        refine lv_aload_n hx hb dX8_brokenBy_143 rfl (lv_at hl 4 rfl) ?_
        refine va_get (D := D) (ci := 11) (v := .ref (P 46)) (C := RX11) (T := TX11) (N := 7) hx hb hgt iwX11 hown hK hP 43 gX_43 rfl 3 (Nat.le_of_ble_eq_true rfl) (hgt _ wd_0_64) (fun _ h9 => h9) rfl dX8_brokenBy_144 ?_
        refine lv_iload hx hb dX8_brokenBy_147 (lv_at hl 6 rfl) ?_
        refine va_iald hx hb hK hP 46 0 gX_46 rfl (ix_l h) dX8_brokenBy_149 ?_
        have h := ix_r h
        obtain ⟨M3, r4, hq, h⟩ := cal_o h
        refine cx_i (va_runV (As := [.int (M1.1 46 (v5 : Int32).toNatClampNeg)]) (rest := []) ⟨hx, hb, hml, hown, hgt⟩ (z_Mind_knownValue l D cI cZ cC cJ cA P s0 hAO M1 (M1.1 46 (v5 : Int32).toNatClampNeg) M3 r4 hq) (cwV 1 hgt (gV wd_2_110 wd_2_111 wd_2_112 wd_0_11 wd_2_113) rfl rfl rfl (by decide +kernel) ⟨Nat.le_of_ble_eq_true rfl, Nat.le_of_ble_eq_true rfl⟩) (prV hP hK hD hO hAO hS (va_recv hK hP (ci := 8) (q0 := 51) rfl gX_51)) rfl rfl hl.1 rfl (lv_room (Nat.le_of_ble_eq_true rfl)) dX8_brokenBy_150 ⟨Nat.le_of_ble_eq_true rfl, Nat.le_of_ble_eq_true rfl⟩) hS (fun H locs hP hD hS => ?_)
        refine lv_aload_n hx hb dX8_brokenBy_153 rfl (lv_at hl 4 rfl) ?_
        refine va_get (D := D) (ci := 11) (v := .ref (P 47)) (C := RX11) (T := TX11) (N := 7) hx hb hgt iwX11 hown hK hP 43 gX_43 rfl 4 (Nat.le_of_ble_eq_true rfl) (hgt _ wd_0_68) (fun _ h9 => h9) rfl dX8_brokenBy_154 ?_
        refine lv_iload hx hb dX8_brokenBy_157 (lv_at hl 6 rfl) ?_
        refine va_iald hx hb hK hP 47 0 gX_47 rfl (ix_l h) dX8_brokenBy_159 ?_
        have h := ix_r h
        refine lv_icmp_eq hx hb dX8_brokenBy_160 (tgt := 167) rfl (fun hc => ?_) (fun hc => ?_)
        · have h := br_T hc h
          have hl := lv_sub hl [1, 2, 3, 4, 5, 6] (l' := [(0, .ref (P 51)), (1, .int v1), (2, .int v2), (3, .ref (P 43)), (4, .int v4), (5, .int v5)]) rfl
          exact b_Mind_brokenBy_167 hx hb hml hr hlk hgt hown hK hO hAO kk14 M3 v1 v2 v4 v5 H _ ls hl hP hD hS h
        · have h := br_F hc h
          refine lv_iconst (v := 1) hx hb dX8_brokenBy_163 (by decide) ?_
          refine lv_goto hx hb dX8_brokenBy_164 (tgt := 168) rfl ?_
          have hl := lv_sub hl [1, 2, 3, 4, 5, 6] (l' := [(0, .ref (P 51)), (1, .int v1), (2, .int v2), (3, .ref (P 43)), (4, .int v4), (5, .int v5)]) rfl
          exact b_Mind_brokenBy_168 hx hb hml hr hlk hgt hown hK hO hAO kk14 M3 v1 v2 v4 v5 1 H _ ls hl hP hD hS h
    · have h := br_T hc h
      refine lv_iload hx hb dX8_brokenBy_95 (lv_at hl 0 rfl) ?_
      refine lv_if_eq hx hb dX8_brokenBy_97 (tgt := 120) rfl (fun hc => ?_) (fun hc => ?_)
      · have h := br_T hc h
        have hl := lv_sub hl [1, 2, 3, 4, 5, 6] (l' := [(0, .ref (P 51)), (1, .int v1), (2, .int v2), (3, .ref (P 43)), (4, .int v4), (5, .int v5)]) rfl
        exact b_Mind_brokenBy_120 hx hb hml hr hlk hgt hown hK hO hAO kk14 M v1 v2 v4 v5 H _ ls hl hP hD hS h
      · have h := br_F hc h
        refine lv_aload_n hx hb dX8_brokenBy_100 rfl (lv_at hl 1 rfl) ?_
        refine lv_aload_n hx hb dX8_brokenBy_101 rfl (lv_at hl 4 rfl) ?_
        refine va_get (D := D) (ci := 11) (v := .ref (P 45)) (C := RX11) (T := TX11) (N := 7) hx hb hgt iwX11 hown hK hP 43 gX_43 rfl 2 (Nat.le_of_ble_eq_true rfl) (hgt _ wd_0_60) (fun _ h9 => h9) rfl dX8_brokenBy_102 ?_
        refine lv_iload hx hb dX8_brokenBy_105 (lv_at hl 6 rfl) ?_
        refine va_iald hx hb hK hP 45 0 gX_45 rfl (ix_l h) dX8_brokenBy_107 ?_
        have h := ix_r h
        refine lv_iload_n hx hb dX8_brokenBy_108 rfl (lv_at hl 2 rfl) ?_
        refine lv_iload_n hx hb dX8_brokenBy_109 rfl (lv_at hl 3 rfl) ?_
        obtain ⟨M1, r2, hq, h⟩ := cal_o h
        refine cx_i (va_runV (As := [.int (M.1 45 (v5 : Int32).toNatClampNeg), .int v1, .int v2]) (rest := []) ⟨hx, hb, hml, hown, hgt⟩ (z_Mind_isWritten l D cI cZ cC cJ cA P s0 hAO M (M.1 45 (v5 : Int32).toNatClampNeg) v1 v2 M1 r2 hq) (cwV 3 hgt (gV wd_2_119 wd_2_121 sl__ChipMap_Mind____ChipMap_Mind___isWritten____III_Z_____ChipMap_Mind___isWritten____III_Z__ wd_0_11 wd_2_122) rfl rfl rfl (by decide +kernel) ⟨Nat.le_of_ble_eq_true rfl, Nat.le_of_ble_eq_true rfl⟩) (prV hP hK hD hO hAO hS (va_recv hK hP (ci := 8) (q0 := 51) rfl gX_51)) rfl rfl hl.1 rfl (lv_room (Nat.le_of_ble_eq_true rfl)) dX8_brokenBy_110 ⟨Nat.le_of_ble_eq_true rfl, Nat.le_of_ble_eq_true rfl⟩) hS (fun H locs hP hD hS => ?_)
        refine lv_if_eq hx hb dX8_brokenBy_113 (tgt := 120) rfl (fun hc => ?_) (fun hc => ?_)
        · have h := br_T hc h
          have hl := lv_sub hl [1, 2, 3, 4, 5, 6] (l' := [(0, .ref (P 51)), (1, .int v1), (2, .int v2), (3, .ref (P 43)), (4, .int v4), (5, .int v5)]) rfl
          exact b_Mind_brokenBy_120 hx hb hml hr hlk hgt hown hK hO hAO kk14 M1 v1 v2 v4 v5 H _ ls hl hP hD hS h
        · have h := br_F hc h
          refine lv_iconst (v := 1) hx hb dX8_brokenBy_116 (by decide) ?_
          refine lv_goto hx hb dX8_brokenBy_117 (tgt := 121) rfl ?_
          have hl := lv_sub hl [1, 2, 3, 4, 5, 6] (l' := [(0, .ref (P 51)), (1, .int v1), (2, .int v2), (3, .ref (P 43)), (4, .int v4), (5, .int v5)]) rfl
          exact b_Mind_brokenBy_121 hx hb hml hr hlk hgt hown hK hO hAO kk14 M1 v1 v2 v4 v5 1 H _ ls hl hP hD hS h
  · have h := br_T hc h
    refine lv_iload hx hb dX8_brokenBy_53 (lv_at hl 0 rfl) ?_
    refine lv_if_ne hx hb dX8_brokenBy_55 (tgt := 78) rfl (fun hc => ?_) (fun hc => ?_)
    · have h := br_F hc h
      have hl := lv_sub hl [1, 2, 3, 4, 5, 6] (l' := [(0, .ref (P 51)), (1, .int v1), (2, .int v2), (3, .ref (P 43)), (4, .int v4), (5, .int v5)]) rfl
      exact b_Mind_brokenBy_78 hx hb hml hr hlk hgt hown hK hO hAO kk14 M v1 v2 v4 v5 H _ ls hl hP hD hS h
    · have h := br_T hc h
      refine lv_aload_n hx hb dX8_brokenBy_58 rfl (lv_at hl 1 rfl) ?_
      refine lv_aload_n hx hb dX8_brokenBy_59 rfl (lv_at hl 4 rfl) ?_
      refine va_get (D := D) (ci := 11) (v := .ref (P 46)) (C := RX11) (T := TX11) (N := 7) hx hb hgt iwX11 hown hK hP 43 gX_43 rfl 3 (Nat.le_of_ble_eq_true rfl) (hgt _ wd_0_64) (fun _ h9 => h9) rfl dX8_brokenBy_60 ?_
      refine lv_iload hx hb dX8_brokenBy_63 (lv_at hl 6 rfl) ?_
      refine va_iald hx hb hK hP 46 0 gX_46 rfl (ix_l h) dX8_brokenBy_65 ?_
      have h := ix_r h
      refine lv_iload_n hx hb dX8_brokenBy_66 rfl (lv_at hl 2 rfl) ?_
      refine lv_iload_n hx hb dX8_brokenBy_67 rfl (lv_at hl 3 rfl) ?_
      obtain ⟨M1, r2, hq, h⟩ := cal_o h
      refine cx_i (va_runV (As := [.int (M.1 46 (v5 : Int32).toNatClampNeg), .int v1, .int v2]) (rest := []) ⟨hx, hb, hml, hown, hgt⟩ (z_Mind_isWritten l D cI cZ cC cJ cA P s0 hAO M (M.1 46 (v5 : Int32).toNatClampNeg) v1 v2 M1 r2 hq) (cwV 3 hgt (gV wd_2_119 wd_2_121 sl__ChipMap_Mind____ChipMap_Mind___isWritten____III_Z_____ChipMap_Mind___isWritten____III_Z__ wd_0_11 wd_2_122) rfl rfl rfl (by decide +kernel) ⟨Nat.le_of_ble_eq_true rfl, Nat.le_of_ble_eq_true rfl⟩) (prV hP hK hD hO hAO hS (va_recv hK hP (ci := 8) (q0 := 51) rfl gX_51)) rfl rfl hl.1 rfl (lv_room (Nat.le_of_ble_eq_true rfl)) dX8_brokenBy_68 ⟨Nat.le_of_ble_eq_true rfl, Nat.le_of_ble_eq_true rfl⟩) hS (fun H locs hP hD hS => ?_)
      refine lv_if_eq hx hb dX8_brokenBy_71 (tgt := 78) rfl (fun hc => ?_) (fun hc => ?_)
      · have h := br_T hc h
        have hl := lv_sub hl [1, 2, 3, 4, 5, 6] (l' := [(0, .ref (P 51)), (1, .int v1), (2, .int v2), (3, .ref (P 43)), (4, .int v4), (5, .int v5)]) rfl
        exact b_Mind_brokenBy_78 hx hb hml hr hlk hgt hown hK hO hAO kk14 M1 v1 v2 v4 v5 H _ ls hl hP hD hS h
      · have h := br_F hc h
        refine lv_iconst (v := 1) hx hb dX8_brokenBy_74 (by decide) ?_
        refine lv_goto hx hb dX8_brokenBy_75 (tgt := 79) rfl ?_
        have hl := lv_sub hl [1, 2, 3, 4, 5, 6] (l' := [(0, .ref (P 51)), (1, .int v1), (2, .int v2), (3, .ref (P 43)), (4, .int v4), (5, .int v5)]) rfl
        exact b_Mind_brokenBy_79 hx hb hml hr hlk hgt hown hK hO hAO kk14 M1 v1 v2 v4 v5 1 H _ ls hl hP hD hS h
set_option maxHeartbeats 4000000 in
set_option maxRecDepth 20000 in
theorem b_Mind_brokenBy_14 {p : Program} {l : Launch} {e : Env} {s s0 : State} {m : MethodId} {args : Array Value} {below : List Frame} {meth : Method} {c : Code} {D : va_G} {cI cZ cC cJ cA : ClassId} {P : Nat → Nat} {M' : Mm} {r' : Int32}  (hx : p.tables.exec = Jvm.exec) (hb : c.code = cX8_brokenBy) (hml : c.maxLocals = 8) (hr : meth.sig.returnType = (some .int)) (hlk : meth.locks = false) (hgt : ∀ w ∈ GT, w.before args s = true) (hown : s.vm.findClass RX8 = some m.cls) (hK : va_K D vwCl [(cI, .int), (cZ, .boolean), (cC, .char), (cJ, .long), (cA, .array .int)] s) (hO : Old s0 s) (hAO : ∀ q, (aP P 77) q → s0.heap.size ≤ q)  : ∀ (n' : Nat) (M : Mm) (v1 : Int32) (v2 : Int32) (v4 : Int32) (v5 : Int32) (H : Heap) (locs : List Loc) (ls : Array Slot), lv_has ls 8 [(0, .ref (P 51)), (1, .int v1), (2, .int v2), (3, .ref (P 43)), (4, .int v4), (5, .int v5)] → va_P D vwCl ((wX cI cZ cC cJ cA P) M) H → va_D (aP P 77) ((wX cI cZ cC cJ cA P) M) → va_S (aP P 77) s.heap H locs → q_Mind_brokenBy_14 n' M v1 v2 v4 v5 = some (M', r') → W p l e ({ frames := 1, cells := 0, slots := 0, locals := 23 }) s m args below meth c H locs 0 0 (MQ below (gQi D (aP P 77) ((wX cI cZ cC cJ cA P) M') r') args s 0 0 (aP P 77)) (F0 m 14 ls []) := by
  intro n'
  induction n' with
  | zero => exact fun _ _ _ _ _ _ _ _ _ _ _ _ h => (rs_n h).elim
  | succ n' ih =>
    intro M v1 v2 v4 v5 H locs ls hl hP hD hS h
    rw [q_Mind_brokenBy_14] at h
    refine lv_iload hx hb dX8_brokenBy_14 (lv_at hl 5 rfl) ?_
    refine lv_aload_n hx hb dX8_brokenBy_16 rfl (lv_at hl 3 rfl) ?_
    refine va_get (D := D) (ci := 11) (v := .int (M.1 43 0)) (C := RX11) (T := TX11) (N := 7) hx hb hgt iwX11 hown hK hP 43 gX_43 rfl 0 (Nat.le_of_ble_eq_true rfl) (hgt _ wd_0_51) (fun _ h9 => h9) rfl dX8_brokenBy_17 ?_
    refine lv_icmp_ge hx hb dX8_brokenBy_20 (tgt := 190) rfl (fun hc => ?_) (fun hc => ?_)
    · have h := br_T hc h
      refine lv_iload hx hb dX8_brokenBy_190 (lv_at hl 4 rfl) ?_
      exact rt_i (w := (wX cI cZ cC cJ cA P)) hx hb hr hlk hP hD hS h dX8_brokenBy_192
    · have h := br_F hc h
      refine lv_aload_n hx hb dX8_brokenBy_23 rfl (lv_at hl 0 rfl) ?_
      refine va_get (D := D) (ci := 8) (v := .int (M.1 51 2)) (C := RX8) (T := TX8) (N := 3) hx hb hgt iwX8 hown hK hP 51 gX_51 rfl 2 (Nat.le_of_ble_eq_true rfl) (hgt _ wd_1_117) (fun _ h9 => h9) rfl dX8_brokenBy_24 ?_
      refine lv_iload hx hb dX8_brokenBy_27 (lv_at hl 5 rfl) ?_
      refine lv_ishr hx hb dX8_brokenBy_29 ?_
      refine lv_iconst (v := 1) hx hb dX8_brokenBy_30 (by decide) ?_
      refine lv_iand hx hb dX8_brokenBy_31 ?_
      refine lv_iconst (v := 1) hx hb dX8_brokenBy_32 (by decide) ?_
      refine lv_icmp_ne hx hb dX8_brokenBy_33 (tgt := 40) rfl (fun hc => ?_) (fun hc => ?_)
      · have h := br_F hc h
        refine lv_iconst (v := 0) hx hb dX8_brokenBy_40 (by decide) ?_
        have hl := lv_sub hl [0, 1, 2, 3, 4, 5] (l' := [(0, .ref (P 51)), (1, .int v1), (2, .int v2), (3, .ref (P 43)), (4, .int v4), (5, .int v5)]) rfl
        exact b_Mind_brokenBy_41 hx hb hml hr hlk hgt hown hK hO hAO ih M v1 v2 v4 v5 0 H _ ls hl hP hD hS h
      · have h := br_T hc h
        refine lv_iconst (v := 1) hx hb dX8_brokenBy_36 (by decide) ?_
        refine lv_goto hx hb dX8_brokenBy_37 (tgt := 41) rfl ?_
        have hl := lv_sub hl [0, 1, 2, 3, 4, 5] (l' := [(0, .ref (P 51)), (1, .int v1), (2, .int v2), (3, .ref (P 43)), (4, .int v4), (5, .int v5)]) rfl
        exact b_Mind_brokenBy_41 hx hb hml hr hlk hgt hown hK hO hAO ih M v1 v2 v4 v5 1 H _ ls hl hP hD hS h
set_option maxHeartbeats 4000000 in
set_option maxRecDepth 20000 in
theorem b_Mind_brokenBy_0 {p : Program} {l : Launch} {e : Env} {s s0 : State} {m : MethodId} {args : Array Value} {below : List Frame} {meth : Method} {c : Code} {D : va_G} {cI cZ cC cJ cA : ClassId} {P : Nat → Nat} {M' : Mm} {r' : Int32}  (hx : p.tables.exec = Jvm.exec) (hb : c.code = cX8_brokenBy) (hml : c.maxLocals = 8) (hr : meth.sig.returnType = (some .int)) (hlk : meth.locks = false) (hgt : ∀ w ∈ GT, w.before args s = true) (hown : s.vm.findClass RX8 = some m.cls) (hK : va_K D vwCl [(cI, .int), (cZ, .boolean), (cC, .char), (cJ, .long), (cA, .array .int)] s) (hO : Old s0 s) (hAO : ∀ q, (aP P 77) q → s0.heap.size ≤ q)  : ∀ (M : Mm) (a1 : Int32) (a2 : Int32) (H : Heap) (locs : List Loc) (ls : Array Slot), lv_has ls 8 [(0, .ref (P 51)), (1, .int a1), (2, .int a2)] → va_P D vwCl ((wX cI cZ cC cJ cA P) M) H → va_D (aP P 77) ((wX cI cZ cC cJ cA P) M) → va_S (aP P 77) s.heap H locs → q_Mind_brokenBy M a1 a2 = some (M', r') → W p l e ({ frames := 1, cells := 0, slots := 0, locals := 23 }) s m args below meth c H locs 0 0 (MQ below (gQi D (aP P 77) ((wX cI cZ cC cJ cA P) M') r') args s 0 0 (aP P 77)) (F0 m 0 ls []) := by
  intro M a1 a2 H locs ls hl hP hD hS h
  unfold q_Mind_brokenBy at h
  refine lv_aload_n hx hb dX8_brokenBy_0 rfl (lv_at hl 0 rfl) ?_
  refine va_get (D := D) (ci := 8) (v := .ref (P 24)) (C := RX8) (T := TX8) (N := 3) hx hb hgt iwX8 hown hK hP 51 gX_51 rfl 0 (Nat.le_of_ble_eq_true rfl) (hgt _ wd_1_112) (fun _ h9 => h9) rfl dX8_brokenBy_1 ?_
  refine va_get (D := D) (ci := 6) (v := .ref (P 43)) (C := RX6) (T := TX6) (N := 13) hx hb hgt iwX6 hown hK hP 24 gX_24 rfl 12 (Nat.le_of_ble_eq_true rfl) (hgt _ wd_1_46) (fun _ h9 => h9) rfl dX8_brokenBy_4 ?_
  refine lv_astore_n hx hb dX8_brokenBy_7 rfl hl (Nat.le_of_ble_eq_true rfl) (lv' := [(3, .ref (P 43)), (0, .ref (P 51)), (1, .int a1), (2, .int a2)]) rfl (fun ls hl => ?_)
  refine lv_iconst (v := 0) hx hb dX8_brokenBy_8 (by decide) ?_
  refine lv_istore hx hb dX8_brokenBy_9 hl (Nat.le_of_ble_eq_true rfl) (lv' := [(4, .int 0), (3, .ref (P 43)), (0, .ref (P 51)), (1, .int a1), (2, .int a2)]) rfl (fun ls hl => ?_)
  refine lv_iconst (v := 0) hx hb dX8_brokenBy_11 (by decide) ?_
  refine lv_istore hx hb dX8_brokenBy_12 hl (Nat.le_of_ble_eq_true rfl) (lv' := [(5, .int 0), (4, .int 0), (3, .ref (P 43)), (0, .ref (P 51)), (1, .int a1), (2, .int a2)]) rfl (fun ls hl => ?_)
  have hl := lv_sub hl [3, 4, 5, 2, 1, 0] (l' := [(0, .ref (P 51)), (1, .int a1), (2, .int a2), (3, .ref (P 43)), (4, .int 0), (5, .int 0)]) rfl
  exact b_Mind_brokenBy_14 hx hb hml hr hlk hgt hown hK hO hAO 4000 M a1 a2 0 0 H _ ls hl hP hD hS h
set_option maxHeartbeats 4000000 in
set_option maxRecDepth 20000 in
theorem z_Mind_brokenBy (l : Launch) (D : va_G) (cI cZ cC cJ cA : ClassId) (P : Nat → Nat) (s0 : State) (hAO : ∀ q, (aP P 77) q → s0.heap.size ≤ q) (M : Mm) (a1 : Int32) (a2 : Int32) (M' : Mm) (r' : Int32) (h : q_Mind_brokenBy M a1 a2 = some (M', r')) : Met l yX8_brokenBy wsX8_brokenBy ({ frames := 1, cells := 0, slots := 0, locals := 23 }) (va_Pc [.ref (P 51), .int a1, .int a2] (gPre s0 D [(cI, .int), (cZ, .boolean), (cC, .char), (cJ, .long), (cA, .array .int)] (aP P 77) ((wX cI cZ cC cJ cA P) M))) (gQi D (aP P 77) ((wX cI cZ cC cJ cA P) M') r') 0 0 (aP P 77) := by
  refine Met.ofW (cc := cX8_brokenBy) (maxL := 8) (ret := (some .int)) (by decide) rfl ?_
  intro p e s m args below meth c s₁ B hml hv
  obtain ⟨rfl, hP, hK, hD, hO⟩ := hv
  have hx := B.exec
  have hb := B.bytes
  have hr := B.returns
  have hlk := B.notSynchronized
  have hgt := fun w (h : w ∈ GT) => atoms_spec (ws := wsX8_brokenBy) B.pre w (List.mem_cons_of_mem _ h)
  have hown : s.vm.findClass RX8 = some m.cls := findClass_of_methodNamed B.named
  have hS : va_S (aP P 77) s.heap s.heap [] := va_S.rf
  have hl := lv_entry ([.ref (P 51), .int a1, .int a2]) (n := 8) (Nat.le_of_ble_eq_true rfl)
  rw [lg_entry_eq]
  generalize (lg_sl ([.ref (P 51), .int a1, .int a2]) ++ List.replicate (8 - (lg_sl ([.ref (P 51), .int a1, .int a2])).length) Slot.unset).toArray = ls at hl ⊢
  have hl : lv_has ls 8 [(0, .ref (P 51)), (1, .int a1), (2, .int a2)] := hl
  exact b_Mind_brokenBy_0 hx hb hml hr hlk hgt hown hK hO hAO M a1 a2 s.heap [] ls hl hP hD hS h
end
section
def q_Log_add  (M : Mm) (a1 : Int32) (a2 : Int32) (a3 : Int32) : Rs := lt' ((M.1 53 0) - (M.1 53 0) / 64 * 64) fun x1 => ix x1 64 <| lt' (stI M 54 (upd (M.1 54) (x1 : Int32).toNatClampNeg a1)) fun M2 => ix x1 64 <| lt' (stI M2 55 (upd (M2.1 55) (x1 : Int32).toNatClampNeg a2)) fun M3 => ix x1 64 <| lt' (stI M3 56 (upd (M3.1 56) (x1 : Int32).toNatClampNeg a3)) fun M4 => lt' (stI M4 53 (upd (M4.1 53) 0 ((M4.1 53 0) + 1))) fun M5 => some (M5, 0)
set_option maxHeartbeats 4000000 in
set_option maxRecDepth 20000 in
theorem b_Log_add_0 {p : Program} {l : Launch} {e : Env} {s s0 : State} {m : MethodId} {args : Array Value} {below : List Frame} {meth : Method} {c : Code} {D : va_G} {cI cZ cC cJ cA : ClassId} {P : Nat → Nat} {M' : Mm} {r' : Int32}  (hx : p.tables.exec = Jvm.exec) (hb : c.code = cX7_add) (hml : c.maxLocals = 5) (hr : meth.sig.returnType = none) (hlk : meth.locks = false) (hgt : ∀ w ∈ GT, w.before args s = true) (hown : s.vm.findClass RX7 = some m.cls) (hK : va_K D vwCl [(cI, .int), (cZ, .boolean), (cC, .char), (cJ, .long), (cA, .array .int)] s) (hO : Old s0 s) (hAO : ∀ q, (aP P 77) q → s0.heap.size ≤ q)  : ∀ (M : Mm) (a1 : Int32) (a2 : Int32) (a3 : Int32) (H : Heap) (locs : List Loc) (ls : Array Slot), lv_has ls 5 [(0, .ref (P 53)), (1, .int a1), (2, .int a2), (3, .int a3)] → va_P D vwCl ((wX cI cZ cC cJ cA P) M) H → va_D (aP P 77) ((wX cI cZ cC cJ cA P) M) → va_S (aP P 77) s.heap H locs → q_Log_add M a1 a2 a3 = some (M', r') → W p l e ({ frames := 0, cells := 0, slots := 0, locals := 0 }) s m args below meth c H locs 0 0 (MQ below (gQv D (aP P 77) ((wX cI cZ cC cJ cA P) M')) args s 0 0 (aP P 77)) (F0 m 0 ls []) := by
  intro M a1 a2 a3 H locs ls hl hP hD hS h
  unfold q_Log_add at h
  refine lv_aload_n hx hb dX7_add_0 rfl (lv_at hl 0 rfl) ?_
  refine va_get (D := D) (ci := 7) (v := .int (M.1 53 0)) (C := RX7) (T := TX7) (N := 4) hx hb hgt iwX7 hown hK hP 53 gX_53 rfl 0 (Nat.le_of_ble_eq_true rfl) (hgt _ wd_1_88) (fun _ h9 => h9) rfl dX7_add_1 ?_
  refine lv_bipush (v := 64) hx hb dX7_add_4 (by decide) ?_
  refine lv_irem hx hb dX7_add_6 (by decide) ?_
  refine lv_topi (fun x1 ex1 => ?_)
  have h := lt_o ex1 h
  refine lv_istore hx hb dX7_add_7 hl (Nat.le_of_ble_eq_true rfl) (lv' := [(4, .int x1), (0, .ref (P 53)), (1, .int a1), (2, .int a2), (3, .int a3)]) rfl (fun ls hl => ?_)
  refine lv_aload_n hx hb dX7_add_9 rfl (lv_at hl 1 rfl) ?_
  refine va_get (D := D) (ci := 7) (v := .ref (P 54)) (C := RX7) (T := TX7) (N := 4) hx hb hgt iwX7 hown hK hP 53 gX_53 rfl 1 (Nat.le_of_ble_eq_true rfl) (hgt _ wd_1_91) (fun _ h9 => h9) rfl dX7_add_10 ?_
  refine lv_iload hx hb dX7_add_13 (lv_at hl 0 rfl) ?_
  refine lv_iload_n hx hb dX7_add_15 rfl (lv_at hl 2 rfl) ?_
  refine pm_iast (w := (wX cI cZ cC cJ cA P)) hx hb hK hP hD hS 54 0 gX_54 rfl sX_54 (ix_l h) dX7_add_16 (fun M2 eM2 H locs hP hD hS => ?_)
  have h := ix_r h
  have h := lt_o eM2 h
  refine lv_aload_n hx hb dX7_add_17 rfl (lv_at hl 1 rfl) ?_
  refine va_get (D := D) (ci := 7) (v := .ref (P 55)) (C := RX7) (T := TX7) (N := 4) hx hb hgt iwX7 hown hK hP 53 gX_53 rfl 2 (Nat.le_of_ble_eq_true rfl) (hgt _ wd_1_93) (fun _ h9 => h9) rfl dX7_add_18 ?_
  refine lv_iload hx hb dX7_add_21 (lv_at hl 0 rfl) ?_
  refine lv_iload_n hx hb dX7_add_23 rfl (lv_at hl 3 rfl) ?_
  refine pm_iast (w := (wX cI cZ cC cJ cA P)) hx hb hK hP hD hS 55 0 gX_55 rfl sX_55 (ix_l h) dX7_add_24 (fun M3 eM3 H locs hP hD hS => ?_)
  have h := ix_r h
  have h := lt_o eM3 h
  refine lv_aload_n hx hb dX7_add_25 rfl (lv_at hl 1 rfl) ?_
  refine va_get (D := D) (ci := 7) (v := .ref (P 56)) (C := RX7) (T := TX7) (N := 4) hx hb hgt iwX7 hown hK hP 53 gX_53 rfl 3 (Nat.le_of_ble_eq_true rfl) (hgt _ wd_1_95) (fun _ h9 => h9) rfl dX7_add_26 ?_
  refine lv_iload hx hb dX7_add_29 (lv_at hl 0 rfl) ?_
  refine lv_iload_n hx hb dX7_add_31 rfl (lv_at hl 4 rfl) ?_
  refine pm_iast (w := (wX cI cZ cC cJ cA P)) hx hb hK hP hD hS 56 0 gX_56 rfl sX_56 (ix_l h) dX7_add_32 (fun M4 eM4 H locs hP hD hS => ?_)
  have h := ix_r h
  have h := lt_o eM4 h
  refine lv_aload_n hx hb dX7_add_33 rfl (lv_at hl 1 rfl) ?_
  refine lv_dup hx hb dX7_add_34 rfl ?_
  refine va_get (D := D) (ci := 7) (v := .int (M4.1 53 0)) (C := RX7) (T := TX7) (N := 4) hx hb hgt iwX7 hown hK hP 53 gX_53 rfl 0 (Nat.le_of_ble_eq_true rfl) (hgt _ wd_1_88) (fun _ h9 => h9) rfl dX7_add_35 ?_
  refine lv_iconst (v := 1) hx hb dX7_add_38 (by decide) ?_
  refine lv_iadd hx hb dX7_add_39 ?_
  refine pm_put (w := (wX cI cZ cC cJ cA P)) (D := D) (ci := 7) (x := ((M4.1 53 0) + 1)) (ty := .int) (C := RX7) (T := TX7) (N := 4) hx hb hgt iwX7 tyX7 tyX7_ok nmX7 hown hK hP hD hS 53 gX_53 rfl 0 (Nat.le_of_ble_eq_true rfl) (hgt _ wd_1_88) (fun _ h9 => h9) rfl (by decide +kernel) rfl rfl (Nat.le_of_ble_eq_true rfl) (sX_53_0 _) dX7_add_40 (fun M5 eM5 H locs hP hD hS => ?_)
  have h := lt_o eM5 h
  exact rt_v (w := (wX cI cZ cC cJ cA P)) (r := r') hx hb hr hlk hP hD hS h dX7_add_43
set_option maxHeartbeats 4000000 in
set_option maxRecDepth 20000 in
theorem z_Log_add (l : Launch) (D : va_G) (cI cZ cC cJ cA : ClassId) (P : Nat → Nat) (s0 : State) (hAO : ∀ q, (aP P 77) q → s0.heap.size ≤ q) (M : Mm) (a1 : Int32) (a2 : Int32) (a3 : Int32) (M' : Mm) (r' : Int32) (h : q_Log_add M a1 a2 a3 = some (M', r')) : Met l yX7_add wsX7_add ({ frames := 0, cells := 0, slots := 0, locals := 0 }) (va_Pc [.ref (P 53), .int a1, .int a2, .int a3] (gPre s0 D [(cI, .int), (cZ, .boolean), (cC, .char), (cJ, .long), (cA, .array .int)] (aP P 77) ((wX cI cZ cC cJ cA P) M))) (gQv D (aP P 77) ((wX cI cZ cC cJ cA P) M')) 0 0 (aP P 77) := by
  refine Met.ofW (cc := cX7_add) (maxL := 5) (ret := none) (by decide) rfl ?_
  intro p e s m args below meth c s₁ B hml hv
  obtain ⟨rfl, hP, hK, hD, hO⟩ := hv
  have hx := B.exec
  have hb := B.bytes
  have hr := B.returns
  have hlk := B.notSynchronized
  have hgt := fun w (h : w ∈ GT) => atoms_spec (ws := wsX7_add) B.pre w (List.mem_cons_of_mem _ h)
  have hown : s.vm.findClass RX7 = some m.cls := findClass_of_methodNamed B.named
  have hS : va_S (aP P 77) s.heap s.heap [] := va_S.rf
  have hl := lv_entry ([.ref (P 53), .int a1, .int a2, .int a3]) (n := 5) (Nat.le_of_ble_eq_true rfl)
  rw [lg_entry_eq]
  generalize (lg_sl ([.ref (P 53), .int a1, .int a2, .int a3]) ++ List.replicate (5 - (lg_sl ([.ref (P 53), .int a1, .int a2, .int a3])).length) Slot.unset).toArray = ls at hl ⊢
  have hl : lv_has ls 5 [(0, .ref (P 53)), (1, .int a1), (2, .int a2), (3, .int a3)] := hl
  exact b_Log_add_0 hx hb hml hr hlk hgt hown hK hO hAO M a1 a2 a3 s.heap [] ls hl hP hD hS h
def q_Mind_write_136 (kf11 : Mm → Int32 → Int32 → Int32 → Rs) (M : Mm) (v1 : Int32) (v2 : Int32) (v4 : Int32) : Rs := kf11 M v1 v2 (v4 + 1)
def q_Mind_write_62 (kf11 : Mm → Int32 → Int32 → Int32 → Rs) (M : Mm) (v1 : Int32) (v2 : Int32) (v4 : Int32) : Rs := ix v4 12 <| if (M.1 44 (v4 : Int32).toNatClampNeg) = 2 then (ix v4 12 <| cal (q_Mind_isWritten M (M.1 46 (v4 : Int32).toNatClampNeg) v1 v2) fun M1 r2 => if r2 = 0 then (ix v4 12 <| cal (q_Mind_isWritten M1 (M1.1 45 (v4 : Int32).toNatClampNeg) v1 v2) fun M3 r4 => if r4 = 0 then (q_Mind_write_136 kf11 M3 v1 v2 v4) else (lt' (stI M3 51 (upd (M3.1 51) 2 ((M3.1 51 2) ||| ((1 : Int32) <<< (v4 &&& 31))))) fun M5 => q_Mind_write_136 kf11 M5 v1 v2 v4)) else (lt' (stI M1 51 (upd (M1.1 51) 2 ((M1.1 51 2) &&& (((1 : Int32) <<< (v4 &&& 31)) ^^^ (-1))))) fun M3 => q_Mind_write_136 kf11 M3 v1 v2 v4)) else (q_Mind_write_136 kf11 M v1 v2 v4)
def q_Mind_write_11  : Nat → Mm → Int32 → Int32 → Int32 → Rs
  | 0, _, _, _, _ => none
  | n' + 1, M, v1, v2, v4 => if (M.1 43 0) ≤ v4 then (ix v1 16 <| ix v1 16 <| lt' (stI M 52 (upd (M.1 52) (v1 : Int32).toNatClampNeg (v2 &&& (M.1 29 (v1 : Int32).toNatClampNeg)))) fun M1 => some (M1, 0)) else (ix v4 12 <| if (M.1 44 (v4 : Int32).toNatClampNeg) = 0 then (ix v4 12 <| cal (q_Mind_isWritten M (M.1 45 (v4 : Int32).toNatClampNeg) v1 v2) fun M1 r2 => if r2 = 0 then (q_Mind_write_62 (q_Mind_write_11 n') M1 v1 v2 v4) else (lt' (stI M1 51 (upd (M1.1 51) 2 ((M1.1 51 2) ||| ((1 : Int32) <<< (v4 &&& 31))))) fun M3 => q_Mind_write_136 (q_Mind_write_11 n') M3 v1 v2 v4)) else (q_Mind_write_62 (q_Mind_write_11 n') M v1 v2 v4))
def q_Mind_write  (M : Mm) (a1 : Int32) (a2 : Int32) : Rs := q_Mind_write_11 4000 M a1 a2 0
set_option maxHeartbeats 4000000 in
set_option maxRecDepth 20000 in
theorem b_Mind_write_136 {p : Program} {l : Launch} {e : Env} {s s0 : State} {m : MethodId} {args : Array Value} {below : List Frame} {meth : Method} {c : Code} {D : va_G} {cI cZ cC cJ cA : ClassId} {P : Nat → Nat} {M' : Mm} {r' : Int32} {kf11 : Mm → Int32 → Int32 → Int32 → Rs} (hx : p.tables.exec = Jvm.exec) (hb : c.code = cX8_write) (hml : c.maxLocals = 5) (hr : meth.sig.returnType = none) (hlk : meth.locks = false) (hgt : ∀ w ∈ GT, w.before args s = true) (hown : s.vm.findClass RX8 = some m.cls) (hK : va_K D vwCl [(cI, .int), (cZ, .boolean), (cC, .char), (cJ, .long), (cA, .array .int)] s) (hO : Old s0 s) (hAO : ∀ q, (aP P 77) q → s0.heap.size ≤ q) (kk11 : ∀ (M : Mm) (v1 : Int32) (v2 : Int32) (v4 : Int32) (H : Heap) (locs : List Loc) (ls : Array Slot), lv_has ls 5 [(0, .ref (P 51)), (1, .int v1), (2, .int v2), (3, .ref (P 43)), (4, .int v4)] → va_P D vwCl ((wX cI cZ cC cJ cA P) M) H → va_D (aP P 77) ((wX cI cZ cC cJ cA P) M) → va_S (aP P 77) s.heap H locs → kf11 M v1 v2 v4 = some (M', r') → W p l e ({ frames := 1, cells := 0, slots := 0, locals := 23 }) s m args below meth c H locs 0 0 (MQ below (gQv D (aP P 77) ((wX cI cZ cC cJ cA P) M')) args s 0 0 (aP P 77)) (F0 m 11 ls [])) : ∀ (M : Mm) (v1 : Int32) (v2 : Int32) (v4 : Int32) (H : Heap) (locs : List Loc) (ls : Array Slot), lv_has ls 5 [(0, .ref (P 51)), (1, .int v1), (2, .int v2), (3, .ref (P 43)), (4, .int v4)] → va_P D vwCl ((wX cI cZ cC cJ cA P) M) H → va_D (aP P 77) ((wX cI cZ cC cJ cA P) M) → va_S (aP P 77) s.heap H locs → q_Mind_write_136 kf11 M v1 v2 v4 = some (M', r') → W p l e ({ frames := 1, cells := 0, slots := 0, locals := 23 }) s m args below meth c H locs 0 0 (MQ below (gQv D (aP P 77) ((wX cI cZ cC cJ cA P) M')) args s 0 0 (aP P 77)) (F0 m 136 ls []) := by
  intro M v1 v2 v4 H locs ls hl hP hD hS h
  unfold q_Mind_write_136 at h
  refine lv_iinc (v := (v4 + 1)) hx hb dX8_write_136 hl (k := 4) rfl rfl (Nat.le_of_ble_eq_true rfl) (lv' := [(4, .int (v4 + 1)), (0, .ref (P 51)), (1, .int v1), (2, .int v2), (3, .ref (P 43))]) rfl (fun ls hl => ?_)
  refine lv_goto hx hb dX8_write_139 (tgt := 11) rfl ?_
  have hl := lv_sub hl [1, 2, 3, 4, 0] (l' := [(0, .ref (P 51)), (1, .int v1), (2, .int v2), (3, .ref (P 43)), (4, .int (v4 + 1))]) rfl
  exact kk11 M v1 v2 (v4 + 1) H locs ls hl hP hD hS h
set_option maxHeartbeats 4000000 in
set_option maxRecDepth 20000 in
theorem b_Mind_write_62 {p : Program} {l : Launch} {e : Env} {s s0 : State} {m : MethodId} {args : Array Value} {below : List Frame} {meth : Method} {c : Code} {D : va_G} {cI cZ cC cJ cA : ClassId} {P : Nat → Nat} {M' : Mm} {r' : Int32} {kf11 : Mm → Int32 → Int32 → Int32 → Rs} (hx : p.tables.exec = Jvm.exec) (hb : c.code = cX8_write) (hml : c.maxLocals = 5) (hr : meth.sig.returnType = none) (hlk : meth.locks = false) (hgt : ∀ w ∈ GT, w.before args s = true) (hown : s.vm.findClass RX8 = some m.cls) (hK : va_K D vwCl [(cI, .int), (cZ, .boolean), (cC, .char), (cJ, .long), (cA, .array .int)] s) (hO : Old s0 s) (hAO : ∀ q, (aP P 77) q → s0.heap.size ≤ q) (kk11 : ∀ (M : Mm) (v1 : Int32) (v2 : Int32) (v4 : Int32) (H : Heap) (locs : List Loc) (ls : Array Slot), lv_has ls 5 [(0, .ref (P 51)), (1, .int v1), (2, .int v2), (3, .ref (P 43)), (4, .int v4)] → va_P D vwCl ((wX cI cZ cC cJ cA P) M) H → va_D (aP P 77) ((wX cI cZ cC cJ cA P) M) → va_S (aP P 77) s.heap H locs → kf11 M v1 v2 v4 = some (M', r') → W p l e ({ frames := 1, cells := 0, slots := 0, locals := 23 }) s m args below meth c H locs 0 0 (MQ below (gQv D (aP P 77) ((wX cI cZ cC cJ cA P) M')) args s 0 0 (aP P 77)) (F0 m 11 ls [])) : ∀ (M : Mm) (v1 : Int32) (v2 : Int32) (v4 : Int32) (H : Heap) (locs : List Loc) (ls : Array Slot), lv_has ls 5 [(0, .ref (P 51)), (1, .int v1), (2, .int v2), (3, .ref (P 43)), (4, .int v4)] → va_P D vwCl ((wX cI cZ cC cJ cA P) M) H → va_D (aP P 77) ((wX cI cZ cC cJ cA P) M) → va_S (aP P 77) s.heap H locs → q_Mind_write_62 kf11 M v1 v2 v4 = some (M', r') → W p l e ({ frames := 1, cells := 0, slots := 0, locals := 23 }) s m args below meth c H locs 0 0 (MQ below (gQv D (aP P 77) ((wX cI cZ cC cJ cA P) M')) args s 0 0 (aP P 77)) (F0 m 62 ls []) := by
  intro M v1 v2 v4 H locs ls hl hP hD hS h
  unfold q_Mind_write_62 at h
  refine lv_aload_n hx hb dX8_write_62 rfl (lv_at hl 3 rfl) ?_
  refine va_get (D := D) (ci := 11) (v := .ref (P 44)) (C := RX11) (T := TX11) (N := 7) hx hb hgt iwX11 hown hK hP 43 gX_43 rfl 1 (Nat.le_of_ble_eq_true rfl) (hgt _ wd_0_56) (fun _ h9 => h9) rfl dX8_write_63 ?_
  refine lv_iload hx hb dX8_write_66 (lv_at hl 4 rfl) ?_
  refine va_iald hx hb hK hP 44 0 gX_44 rfl (ix_l h) dX8_write_68 ?_
  have h := ix_r h
  refine lv_iconst (v := 2) hx hb dX8_write_69 (by decide) ?_
  refine lv_icmp_ne hx hb dX8_write_70 (tgt := 136) rfl (fun hc => ?_) (fun hc => ?_)
  · have h := br_F hc h
    have hl := lv_sub hl [0, 1, 2, 3, 4] (l' := [(0, .ref (P 51)), (1, .int v1), (2, .int v2), (3, .ref (P 43)), (4, .int v4)]) rfl
    exact b_Mind_write_136 hx hb hml hr hlk hgt hown hK hO hAO kk11 M v1 v2 v4 H _ ls hl hP hD hS h
  · have h := br_T hc h
    refine lv_aload_n hx hb dX8_write_73 rfl (lv_at hl 0 rfl) ?_
    refine lv_aload_n hx hb dX8_write_74 rfl (lv_at hl 3 rfl) ?_
    refine va_get (D := D) (ci := 11) (v := .ref (P 46)) (C := RX11) (T := TX11) (N := 7) hx hb hgt iwX11 hown hK hP 43 gX_43 rfl 3 (Nat.le_of_ble_eq_true rfl) (hgt _ wd_0_64) (fun _ h9 => h9) rfl dX8_write_75 ?_
    refine lv_iload hx hb dX8_write_78 (lv_at hl 4 rfl) ?_
    refine va_iald hx hb hK hP 46 0 gX_46 rfl (ix_l h) dX8_write_80 ?_
    have h := ix_r h
    refine lv_iload_n hx hb dX8_write_81 rfl (lv_at hl 1 rfl) ?_
    refine lv_iload_n hx hb dX8_write_82 rfl (lv_at hl 2 rfl) ?_
    obtain ⟨M1, r2, hq, h⟩ := cal_o h
    refine cx_i (va_runV (As := [.int (M.1 46 (v4 : Int32).toNatClampNeg), .int v1, .int v2]) (rest := []) ⟨hx, hb, hml, hown, hgt⟩ (z_Mind_isWritten l D cI cZ cC cJ cA P s0 hAO M (M.1 46 (v4 : Int32).toNatClampNeg) v1 v2 M1 r2 hq) (cwV 3 hgt (gV wd_2_119 wd_2_121 sl__ChipMap_Mind____ChipMap_Mind___isWritten____III_Z_____ChipMap_Mind___isWritten____III_Z__ wd_0_11 wd_2_122) rfl rfl rfl (by decide +kernel) ⟨Nat.le_of_ble_eq_true rfl, Nat.le_of_ble_eq_true rfl⟩) (prV hP hK hD hO hAO hS (va_recv hK hP (ci := 8) (q0 := 51) rfl gX_51)) rfl rfl hl.1 rfl (lv_room (Nat.le_of_ble_eq_true rfl)) dX8_write_83 ⟨Nat.le_of_ble_eq_true rfl, Nat.le_of_ble_eq_true rfl⟩) hS (fun H locs hP hD hS => ?_)
    refine lv_if_eq hx hb dX8_write_86 (tgt := 107) rfl (fun hc => ?_) (fun hc => ?_)
    · have h := br_T hc h
      refine lv_aload_n hx hb dX8_write_107 rfl (lv_at hl 0 rfl) ?_
      refine lv_aload_n hx hb dX8_write_108 rfl (lv_at hl 3 rfl) ?_
      refine va_get (D := D) (ci := 11) (v := .ref (P 45)) (C := RX11) (T := TX11) (N := 7) hx hb hgt iwX11 hown hK hP 43 gX_43 rfl 2 (Nat.le_of_ble_eq_true rfl) (hgt _ wd_0_60) (fun _ h9 => h9) rfl dX8_write_109 ?_
      refine lv_iload hx hb dX8_write_112 (lv_at hl 4 rfl) ?_
      refine va_iald hx hb hK hP 45 0 gX_45 rfl (ix_l h) dX8_write_114 ?_
      have h := ix_r h
      refine lv_iload_n hx hb dX8_write_115 rfl (lv_at hl 1 rfl) ?_
      refine lv_iload_n hx hb dX8_write_116 rfl (lv_at hl 2 rfl) ?_
      obtain ⟨M3, r4, hq, h⟩ := cal_o h
      refine cx_i (va_runV (As := [.int (M1.1 45 (v4 : Int32).toNatClampNeg), .int v1, .int v2]) (rest := []) ⟨hx, hb, hml, hown, hgt⟩ (z_Mind_isWritten l D cI cZ cC cJ cA P s0 hAO M1 (M1.1 45 (v4 : Int32).toNatClampNeg) v1 v2 M3 r4 hq) (cwV 3 hgt (gV wd_2_119 wd_2_121 sl__ChipMap_Mind____ChipMap_Mind___isWritten____III_Z_____ChipMap_Mind___isWritten____III_Z__ wd_0_11 wd_2_122) rfl rfl rfl (by decide +kernel) ⟨Nat.le_of_ble_eq_true rfl, Nat.le_of_ble_eq_true rfl⟩) (prV hP hK hD hO hAO hS (va_recv hK hP (ci := 8) (q0 := 51) rfl gX_51)) rfl rfl hl.1 rfl (lv_room (Nat.le_of_ble_eq_true rfl)) dX8_write_117 ⟨Nat.le_of_ble_eq_true rfl, Nat.le_of_ble_eq_true rfl⟩) hS (fun H locs hP hD hS => ?_)
      refine lv_if_eq hx hb dX8_write_120 (tgt := 136) rfl (fun hc => ?_) (fun hc => ?_)
      · have h := br_T hc h
        have hl := lv_sub hl [0, 1, 2, 3, 4] (l' := [(0, .ref (P 51)), (1, .int v1), (2, .int v2), (3, .ref (P 43)), (4, .int v4)]) rfl
        exact b_Mind_write_136 hx hb hml hr hlk hgt hown hK hO hAO kk11 M3 v1 v2 v4 H _ ls hl hP hD hS h
      · have h := br_F hc h
        refine lv_aload_n hx hb dX8_write_123 rfl (lv_at hl 0 rfl) ?_
        refine lv_dup hx hb dX8_write_124 rfl ?_
        refine va_get (D := D) (ci := 8) (v := .int (M3.1 51 2)) (C := RX8) (T := TX8) (N := 3) hx hb hgt iwX8 hown hK hP 51 gX_51 rfl 2 (Nat.le_of_ble_eq_true rfl) (hgt _ wd_1_117) (fun _ h9 => h9) rfl dX8_write_125 ?_
        refine lv_iconst (v := 1) hx hb dX8_write_128 (by decide) ?_
        refine lv_iload hx hb dX8_write_129 (lv_at hl 4 rfl) ?_
        refine lv_ishl hx hb dX8_write_131 ?_
        refine lv_ior hx hb dX8_write_132 ?_
        refine pm_put (w := (wX cI cZ cC cJ cA P)) (D := D) (ci := 8) (x := ((M3.1 51 2) ||| ((1 : Int32) <<< (v4 &&& 31)))) (ty := .int) (C := RX8) (T := TX8) (N := 3) hx hb hgt iwX8 tyX8 tyX8_ok nmX8 hown hK hP hD hS 51 gX_51 rfl 2 (Nat.le_of_ble_eq_true rfl) (hgt _ wd_1_117) (fun _ h9 => h9) rfl (by decide +kernel) rfl rfl (Nat.le_of_ble_eq_true rfl) (sX_51_2 _) dX8_write_133 (fun M5 eM5 H locs hP hD hS => ?_)
        have h := lt_o eM5 h
        have hl := lv_sub hl [0, 1, 2, 3, 4] (l' := [(0, .ref (P 51)), (1, .int v1), (2, .int v2), (3, .ref (P 43)), (4, .int v4)]) rfl
        exact b_Mind_write_136 hx hb hml hr hlk hgt hown hK hO hAO kk11 M5 v1 v2 v4 H _ ls hl hP hD hS h
    · have h := br_F hc h
      refine lv_aload_n hx hb dX8_write_89 rfl (lv_at hl 0 rfl) ?_
      refine lv_dup hx hb dX8_write_90 rfl ?_
      refine va_get (D := D) (ci := 8) (v := .int (M1.1 51 2)) (C := RX8) (T := TX8) (N := 3) hx hb hgt iwX8 hown hK hP 51 gX_51 rfl 2 (Nat.le_of_ble_eq_true rfl) (hgt _ wd_1_117) (fun _ h9 => h9) rfl dX8_write_91 ?_
      refine lv_iconst (v := 1) hx hb dX8_write_94 (by decide) ?_
      refine lv_iload hx hb dX8_write_95 (lv_at hl 4 rfl) ?_
      refine lv_ishl hx hb dX8_write_97 ?_
      refine lv_iconst (v := (-1)) hx hb dX8_write_98 (by decide) ?_
      refine lv_ixor hx hb dX8_write_99 ?_
      refine lv_iand hx hb dX8_write_100 ?_
      refine pm_put (w := (wX cI cZ cC cJ cA P)) (D := D) (ci := 8) (x := ((M1.1 51 2) &&& (((1 : Int32) <<< (v4 &&& 31)) ^^^ (-1)))) (ty := .int) (C := RX8) (T := TX8) (N := 3) hx hb hgt iwX8 tyX8 tyX8_ok nmX8 hown hK hP hD hS 51 gX_51 rfl 2 (Nat.le_of_ble_eq_true rfl) (hgt _ wd_1_117) (fun _ h9 => h9) rfl (by decide +kernel) rfl rfl (Nat.le_of_ble_eq_true rfl) (sX_51_2 _) dX8_write_101 (fun M3 eM3 H locs hP hD hS => ?_)
      have h := lt_o eM3 h
      refine lv_goto hx hb dX8_write_104 (tgt := 136) rfl ?_
      have hl := lv_sub hl [0, 1, 2, 3, 4] (l' := [(0, .ref (P 51)), (1, .int v1), (2, .int v2), (3, .ref (P 43)), (4, .int v4)]) rfl
      exact b_Mind_write_136 hx hb hml hr hlk hgt hown hK hO hAO kk11 M3 v1 v2 v4 H _ ls hl hP hD hS h
set_option maxHeartbeats 4000000 in
set_option maxRecDepth 20000 in
theorem b_Mind_write_11 {p : Program} {l : Launch} {e : Env} {s s0 : State} {m : MethodId} {args : Array Value} {below : List Frame} {meth : Method} {c : Code} {D : va_G} {cI cZ cC cJ cA : ClassId} {P : Nat → Nat} {M' : Mm} {r' : Int32}  (hx : p.tables.exec = Jvm.exec) (hb : c.code = cX8_write) (hml : c.maxLocals = 5) (hr : meth.sig.returnType = none) (hlk : meth.locks = false) (hgt : ∀ w ∈ GT, w.before args s = true) (hown : s.vm.findClass RX8 = some m.cls) (hK : va_K D vwCl [(cI, .int), (cZ, .boolean), (cC, .char), (cJ, .long), (cA, .array .int)] s) (hO : Old s0 s) (hAO : ∀ q, (aP P 77) q → s0.heap.size ≤ q)  : ∀ (n' : Nat) (M : Mm) (v1 : Int32) (v2 : Int32) (v4 : Int32) (H : Heap) (locs : List Loc) (ls : Array Slot), lv_has ls 5 [(0, .ref (P 51)), (1, .int v1), (2, .int v2), (3, .ref (P 43)), (4, .int v4)] → va_P D vwCl ((wX cI cZ cC cJ cA P) M) H → va_D (aP P 77) ((wX cI cZ cC cJ cA P) M) → va_S (aP P 77) s.heap H locs → q_Mind_write_11 n' M v1 v2 v4 = some (M', r') → W p l e ({ frames := 1, cells := 0, slots := 0, locals := 23 }) s m args below meth c H locs 0 0 (MQ below (gQv D (aP P 77) ((wX cI cZ cC cJ cA P) M')) args s 0 0 (aP P 77)) (F0 m 11 ls []) := by
  intro n'
  induction n' with
  | zero => exact fun _ _ _ _ _ _ _ _ _ _ _ h => (rs_n h).elim
  | succ n' ih =>
    intro M v1 v2 v4 H locs ls hl hP hD hS h
    rw [q_Mind_write_11] at h
    refine lv_iload hx hb dX8_write_11 (lv_at hl 4 rfl) ?_
    refine lv_aload_n hx hb dX8_write_13 rfl (lv_at hl 3 rfl) ?_
    refine va_get (D := D) (ci := 11) (v := .int (M.1 43 0)) (C := RX11) (T := TX11) (N := 7) hx hb hgt iwX11 hown hK hP 43 gX_43 rfl 0 (Nat.le_of_ble_eq_true rfl) (hgt _ wd_0_51) (fun _ h9 => h9) rfl dX8_write_14 ?_
    refine lv_icmp_ge hx hb dX8_write_17 (tgt := 142) rfl (fun hc => ?_) (fun hc => ?_)
    · have h := br_T hc h
      refine lv_aload_n hx hb dX8_write_142 rfl (lv_at hl 0 rfl) ?_
      refine va_get (D := D) (ci := 8) (v := .ref (P 52)) (C := RX8) (T := TX8) (N := 3) hx hb hgt iwX8 hown hK hP 51 gX_51 rfl 1 (Nat.le_of_ble_eq_true rfl) (hgt _ wd_1_113) (fun _ h9 => h9) rfl dX8_write_143 ?_
      refine lv_iload_n hx hb dX8_write_146 rfl (lv_at hl 1 rfl) ?_
      refine lv_iload_n hx hb dX8_write_147 rfl (lv_at hl 2 rfl) ?_
      refine lv_aload_n hx hb dX8_write_148 rfl (lv_at hl 0 rfl) ?_
      refine va_get (D := D) (ci := 8) (v := .ref (P 24)) (C := RX8) (T := TX8) (N := 3) hx hb hgt iwX8 hown hK hP 51 gX_51 rfl 0 (Nat.le_of_ble_eq_true rfl) (hgt _ wd_1_112) (fun _ h9 => h9) rfl dX8_write_149 ?_
      refine va_get (D := D) (ci := 6) (v := .ref (P 29)) (C := RX6) (T := TX6) (N := 13) hx hb hgt iwX6 hown hK hP 24 gX_24 rfl 5 (Nat.le_of_ble_eq_true rfl) (hgt _ wd_1_20) (fun _ h9 => h9) rfl dX8_write_152 ?_
      refine lv_iload_n hx hb dX8_write_155 rfl (lv_at hl 1 rfl) ?_
      refine va_iald hx hb hK hP 29 0 gX_29 rfl (ix_l h) dX8_write_156 ?_
      have h := ix_r h
      refine lv_iand hx hb dX8_write_157 ?_
      refine pm_iast (w := (wX cI cZ cC cJ cA P)) hx hb hK hP hD hS 52 0 gX_52 rfl sX_52 (ix_l h) dX8_write_158 (fun M1 eM1 H locs hP hD hS => ?_)
      have h := ix_r h
      have h := lt_o eM1 h
      exact rt_v (w := (wX cI cZ cC cJ cA P)) (r := r') hx hb hr hlk hP hD hS h dX8_write_159
    · have h := br_F hc h
      refine lv_aload_n hx hb dX8_write_20 rfl (lv_at hl 3 rfl) ?_
      refine va_get (D := D) (ci := 11) (v := .ref (P 44)) (C := RX11) (T := TX11) (N := 7) hx hb hgt iwX11 hown hK hP 43 gX_43 rfl 1 (Nat.le_of_ble_eq_true rfl) (hgt _ wd_0_56) (fun _ h9 => h9) rfl dX8_write_21 ?_
      refine lv_iload hx hb dX8_write_24 (lv_at hl 4 rfl) ?_
      refine va_iald hx hb hK hP 44 0 gX_44 rfl (ix_l h) dX8_write_26 ?_
      have h := ix_r h
      refine lv_if_ne hx hb dX8_write_27 (tgt := 62) rfl (fun hc => ?_) (fun hc => ?_)
      · have h := br_F hc h
        have hl := lv_sub hl [0, 1, 2, 3, 4] (l' := [(0, .ref (P 51)), (1, .int v1), (2, .int v2), (3, .ref (P 43)), (4, .int v4)]) rfl
        exact b_Mind_write_62 hx hb hml hr hlk hgt hown hK hO hAO ih M v1 v2 v4 H _ ls hl hP hD hS h
      · have h := br_T hc h
        refine lv_aload_n hx hb dX8_write_30 rfl (lv_at hl 0 rfl) ?_
        refine lv_aload_n hx hb dX8_write_31 rfl (lv_at hl 3 rfl) ?_
        refine va_get (D := D) (ci := 11) (v := .ref (P 45)) (C := RX11) (T := TX11) (N := 7) hx hb hgt iwX11 hown hK hP 43 gX_43 rfl 2 (Nat.le_of_ble_eq_true rfl) (hgt _ wd_0_60) (fun _ h9 => h9) rfl dX8_write_32 ?_
        refine lv_iload hx hb dX8_write_35 (lv_at hl 4 rfl) ?_
        refine va_iald hx hb hK hP 45 0 gX_45 rfl (ix_l h) dX8_write_37 ?_
        have h := ix_r h
        refine lv_iload_n hx hb dX8_write_38 rfl (lv_at hl 1 rfl) ?_
        refine lv_iload_n hx hb dX8_write_39 rfl (lv_at hl 2 rfl) ?_
        obtain ⟨M1, r2, hq, h⟩ := cal_o h
        refine cx_i (va_runV (As := [.int (M.1 45 (v4 : Int32).toNatClampNeg), .int v1, .int v2]) (rest := []) ⟨hx, hb, hml, hown, hgt⟩ (z_Mind_isWritten l D cI cZ cC cJ cA P s0 hAO M (M.1 45 (v4 : Int32).toNatClampNeg) v1 v2 M1 r2 hq) (cwV 3 hgt (gV wd_2_119 wd_2_121 sl__ChipMap_Mind____ChipMap_Mind___isWritten____III_Z_____ChipMap_Mind___isWritten____III_Z__ wd_0_11 wd_2_122) rfl rfl rfl (by decide +kernel) ⟨Nat.le_of_ble_eq_true rfl, Nat.le_of_ble_eq_true rfl⟩) (prV hP hK hD hO hAO hS (va_recv hK hP (ci := 8) (q0 := 51) rfl gX_51)) rfl rfl hl.1 rfl (lv_room (Nat.le_of_ble_eq_true rfl)) dX8_write_40 ⟨Nat.le_of_ble_eq_true rfl, Nat.le_of_ble_eq_true rfl⟩) hS (fun H locs hP hD hS => ?_)
        refine lv_if_eq hx hb dX8_write_43 (tgt := 62) rfl (fun hc => ?_) (fun hc => ?_)
        · have h := br_T hc h
          have hl := lv_sub hl [0, 1, 2, 3, 4] (l' := [(0, .ref (P 51)), (1, .int v1), (2, .int v2), (3, .ref (P 43)), (4, .int v4)]) rfl
          exact b_Mind_write_62 hx hb hml hr hlk hgt hown hK hO hAO ih M1 v1 v2 v4 H _ ls hl hP hD hS h
        · have h := br_F hc h
          refine lv_aload_n hx hb dX8_write_46 rfl (lv_at hl 0 rfl) ?_
          refine lv_dup hx hb dX8_write_47 rfl ?_
          refine va_get (D := D) (ci := 8) (v := .int (M1.1 51 2)) (C := RX8) (T := TX8) (N := 3) hx hb hgt iwX8 hown hK hP 51 gX_51 rfl 2 (Nat.le_of_ble_eq_true rfl) (hgt _ wd_1_117) (fun _ h9 => h9) rfl dX8_write_48 ?_
          refine lv_iconst (v := 1) hx hb dX8_write_51 (by decide) ?_
          refine lv_iload hx hb dX8_write_52 (lv_at hl 4 rfl) ?_
          refine lv_ishl hx hb dX8_write_54 ?_
          refine lv_ior hx hb dX8_write_55 ?_
          refine pm_put (w := (wX cI cZ cC cJ cA P)) (D := D) (ci := 8) (x := ((M1.1 51 2) ||| ((1 : Int32) <<< (v4 &&& 31)))) (ty := .int) (C := RX8) (T := TX8) (N := 3) hx hb hgt iwX8 tyX8 tyX8_ok nmX8 hown hK hP hD hS 51 gX_51 rfl 2 (Nat.le_of_ble_eq_true rfl) (hgt _ wd_1_117) (fun _ h9 => h9) rfl (by decide +kernel) rfl rfl (Nat.le_of_ble_eq_true rfl) (sX_51_2 _) dX8_write_56 (fun M3 eM3 H locs hP hD hS => ?_)
          have h := lt_o eM3 h
          refine lv_goto hx hb dX8_write_59 (tgt := 136) rfl ?_
          have hl := lv_sub hl [0, 1, 2, 3, 4] (l' := [(0, .ref (P 51)), (1, .int v1), (2, .int v2), (3, .ref (P 43)), (4, .int v4)]) rfl
          exact b_Mind_write_136 hx hb hml hr hlk hgt hown hK hO hAO ih M3 v1 v2 v4 H _ ls hl hP hD hS h
set_option maxHeartbeats 4000000 in
set_option maxRecDepth 20000 in
theorem b_Mind_write_0 {p : Program} {l : Launch} {e : Env} {s s0 : State} {m : MethodId} {args : Array Value} {below : List Frame} {meth : Method} {c : Code} {D : va_G} {cI cZ cC cJ cA : ClassId} {P : Nat → Nat} {M' : Mm} {r' : Int32}  (hx : p.tables.exec = Jvm.exec) (hb : c.code = cX8_write) (hml : c.maxLocals = 5) (hr : meth.sig.returnType = none) (hlk : meth.locks = false) (hgt : ∀ w ∈ GT, w.before args s = true) (hown : s.vm.findClass RX8 = some m.cls) (hK : va_K D vwCl [(cI, .int), (cZ, .boolean), (cC, .char), (cJ, .long), (cA, .array .int)] s) (hO : Old s0 s) (hAO : ∀ q, (aP P 77) q → s0.heap.size ≤ q)  : ∀ (M : Mm) (a1 : Int32) (a2 : Int32) (H : Heap) (locs : List Loc) (ls : Array Slot), lv_has ls 5 [(0, .ref (P 51)), (1, .int a1), (2, .int a2)] → va_P D vwCl ((wX cI cZ cC cJ cA P) M) H → va_D (aP P 77) ((wX cI cZ cC cJ cA P) M) → va_S (aP P 77) s.heap H locs → q_Mind_write M a1 a2 = some (M', r') → W p l e ({ frames := 1, cells := 0, slots := 0, locals := 23 }) s m args below meth c H locs 0 0 (MQ below (gQv D (aP P 77) ((wX cI cZ cC cJ cA P) M')) args s 0 0 (aP P 77)) (F0 m 0 ls []) := by
  intro M a1 a2 H locs ls hl hP hD hS h
  unfold q_Mind_write at h
  refine lv_aload_n hx hb dX8_write_0 rfl (lv_at hl 0 rfl) ?_
  refine va_get (D := D) (ci := 8) (v := .ref (P 24)) (C := RX8) (T := TX8) (N := 3) hx hb hgt iwX8 hown hK hP 51 gX_51 rfl 0 (Nat.le_of_ble_eq_true rfl) (hgt _ wd_1_112) (fun _ h9 => h9) rfl dX8_write_1 ?_
  refine va_get (D := D) (ci := 6) (v := .ref (P 43)) (C := RX6) (T := TX6) (N := 13) hx hb hgt iwX6 hown hK hP 24 gX_24 rfl 12 (Nat.le_of_ble_eq_true rfl) (hgt _ wd_1_46) (fun _ h9 => h9) rfl dX8_write_4 ?_
  refine lv_astore_n hx hb dX8_write_7 rfl hl (Nat.le_of_ble_eq_true rfl) (lv' := [(3, .ref (P 43)), (0, .ref (P 51)), (1, .int a1), (2, .int a2)]) rfl (fun ls hl => ?_)
  refine lv_iconst (v := 0) hx hb dX8_write_8 (by decide) ?_
  refine lv_istore hx hb dX8_write_9 hl (Nat.le_of_ble_eq_true rfl) (lv' := [(4, .int 0), (3, .ref (P 43)), (0, .ref (P 51)), (1, .int a1), (2, .int a2)]) rfl (fun ls hl => ?_)
  have hl := lv_sub hl [2, 3, 4, 1, 0] (l' := [(0, .ref (P 51)), (1, .int a1), (2, .int a2), (3, .ref (P 43)), (4, .int 0)]) rfl
  exact b_Mind_write_11 hx hb hml hr hlk hgt hown hK hO hAO 4000 M a1 a2 0 H _ ls hl hP hD hS h
set_option maxHeartbeats 4000000 in
set_option maxRecDepth 20000 in
theorem z_Mind_write (l : Launch) (D : va_G) (cI cZ cC cJ cA : ClassId) (P : Nat → Nat) (s0 : State) (hAO : ∀ q, (aP P 77) q → s0.heap.size ≤ q) (M : Mm) (a1 : Int32) (a2 : Int32) (M' : Mm) (r' : Int32) (h : q_Mind_write M a1 a2 = some (M', r')) : Met l yX8_write wsX8_write ({ frames := 1, cells := 0, slots := 0, locals := 23 }) (va_Pc [.ref (P 51), .int a1, .int a2] (gPre s0 D [(cI, .int), (cZ, .boolean), (cC, .char), (cJ, .long), (cA, .array .int)] (aP P 77) ((wX cI cZ cC cJ cA P) M))) (gQv D (aP P 77) ((wX cI cZ cC cJ cA P) M')) 0 0 (aP P 77) := by
  refine Met.ofW (cc := cX8_write) (maxL := 5) (ret := none) (by decide) rfl ?_
  intro p e s m args below meth c s₁ B hml hv
  obtain ⟨rfl, hP, hK, hD, hO⟩ := hv
  have hx := B.exec
  have hb := B.bytes
  have hr := B.returns
  have hlk := B.notSynchronized
  have hgt := fun w (h : w ∈ GT) => atoms_spec (ws := wsX8_write) B.pre w (List.mem_cons_of_mem _ h)
  have hown : s.vm.findClass RX8 = some m.cls := findClass_of_methodNamed B.named
  have hS : va_S (aP P 77) s.heap s.heap [] := va_S.rf
  have hl := lv_entry ([.ref (P 51), .int a1, .int a2]) (n := 5) (Nat.le_of_ble_eq_true rfl)
  rw [lg_entry_eq]
  generalize (lg_sl ([.ref (P 51), .int a1, .int a2]) ++ List.replicate (5 - (lg_sl ([.ref (P 51), .int a1, .int a2])).length) Slot.unset).toArray = ls at hl ⊢
  have hl : lv_has ls 5 [(0, .ref (P 51)), (1, .int a1), (2, .int a2)] := hl
  exact b_Mind_write_0 hx hb hml hr hlk hgt hown hK hO hAO M a1 a2 s.heap [] ls hl hP hD hS h
def q_Device_setLoose  (M : Mm) (a1 : Int32) (a2 : Int32) : Rs := ix a1 26 <| lt' (M.1 38 (a1 : Int32).toNatClampNeg) fun x1 => ix x1 16 <| ix a1 26 <| ix a1 26 <| ix x1 16 <| lt' (stI M 57 (upd (M.1 57) (x1 : Int32).toNatClampNeg (((M.1 57 (x1 : Int32).toNatClampNeg) &&& ((M.1 42 (a1 : Int32).toNatClampNeg) ^^^ (-1))) ||| ((a2 : Int32) <<< ((M.1 40 (a1 : Int32).toNatClampNeg) &&& 31))))) fun M2 => some (M2, 0)
set_option maxHeartbeats 4000000 in
set_option maxRecDepth 20000 in
theorem b_Device_setLoose_0 {p : Program} {l : Launch} {e : Env} {s s0 : State} {m : MethodId} {args : Array Value} {below : List Frame} {meth : Method} {c : Code} {D : va_G} {cI cZ cC cJ cA : ClassId} {P : Nat → Nat} {M' : Mm} {r' : Int32}  (hx : p.tables.exec = Jvm.exec) (hb : c.code = cX3_setLoose) (hml : c.maxLocals = 4) (hr : meth.sig.returnType = none) (hlk : meth.locks = false) (hgt : ∀ w ∈ GT, w.before args s = true) (hown : s.vm.findClass RX3 = some m.cls) (hK : va_K D vwCl [(cI, .int), (cZ, .boolean), (cC, .char), (cJ, .long), (cA, .array .int)] s) (hO : Old s0 s) (hAO : ∀ q, (aP P 77) q → s0.heap.size ≤ q)  : ∀ (M : Mm) (a1 : Int32) (a2 : Int32) (H : Heap) (locs : List Loc) (ls : Array Slot), lv_has ls 4 [(0, .ref (P 50)), (1, .int a1), (2, .int a2)] → va_P D vwCl ((wX cI cZ cC cJ cA P) M) H → va_D (aP P 77) ((wX cI cZ cC cJ cA P) M) → va_S (aP P 77) s.heap H locs → q_Device_setLoose M a1 a2 = some (M', r') → W p l e ({ frames := 0, cells := 0, slots := 0, locals := 0 }) s m args below meth c H locs 0 0 (MQ below (gQv D (aP P 77) ((wX cI cZ cC cJ cA P) M')) args s 0 0 (aP P 77)) (F0 m 0 ls []) := by
  intro M a1 a2 H locs ls hl hP hD hS h
  unfold q_Device_setLoose at h
  refine lv_aload_n hx hb dX3_setLoose_0 rfl (lv_at hl 0 rfl) ?_
  refine va_get (D := D) (ci := 3) (v := .ref (P 24)) (C := RX3) (T := TX3) (N := 7) hx hb hgt iwX3 hown hK hP 50 gX_50 rfl 0 (Nat.le_of_ble_eq_true rfl) (hgt _ wd_1_126) (fun _ h9 => h9) rfl dX3_setLoose_1 ?_
  refine va_get (D := D) (ci := 6) (v := .ref (P 38)) (C := RX6) (T := TX6) (N := 13) hx hb hgt iwX6 hown hK hP 24 gX_24 rfl 7 (Nat.le_of_ble_eq_true rfl) (hgt _ wd_1_26) (fun _ h9 => h9) rfl dX3_setLoose_4 ?_
  refine lv_iload_n hx hb dX3_setLoose_7 rfl (lv_at hl 1 rfl) ?_
  refine va_iald hx hb hK hP 38 0 gX_38 rfl (ix_l h) dX3_setLoose_8 ?_
  have h := ix_r h
  refine lv_topi (fun x1 ex1 => ?_)
  have h := lt_o ex1 h
  refine lv_istore_n hx hb dX3_setLoose_9 rfl hl (Nat.le_of_ble_eq_true rfl) (lv' := [(3, .int x1), (0, .ref (P 50)), (1, .int a1), (2, .int a2)]) rfl (fun ls hl => ?_)
  refine lv_aload_n hx hb dX3_setLoose_10 rfl (lv_at hl 1 rfl) ?_
  refine va_get (D := D) (ci := 3) (v := .ref (P 57)) (C := RX3) (T := TX3) (N := 7) hx hb hgt iwX3 hown hK hP 50 gX_50 rfl 4 (Nat.le_of_ble_eq_true rfl) (hgt _ wd_1_133) (fun _ h9 => h9) rfl dX3_setLoose_11 ?_
  refine lv_iload_n hx hb dX3_setLoose_14 rfl (lv_at hl 0 rfl) ?_
  refine lv_aload_n hx hb dX3_setLoose_15 rfl (lv_at hl 1 rfl) ?_
  refine va_get (D := D) (ci := 3) (v := .ref (P 57)) (C := RX3) (T := TX3) (N := 7) hx hb hgt iwX3 hown hK hP 50 gX_50 rfl 4 (Nat.le_of_ble_eq_true rfl) (hgt _ wd_1_133) (fun _ h9 => h9) rfl dX3_setLoose_16 ?_
  refine lv_iload_n hx hb dX3_setLoose_19 rfl (lv_at hl 0 rfl) ?_
  refine va_iald hx hb hK hP 57 0 gX_57 rfl (ix_l h) dX3_setLoose_20 ?_
  have h := ix_r h
  refine lv_aload_n hx hb dX3_setLoose_21 rfl (lv_at hl 1 rfl) ?_
  refine va_get (D := D) (ci := 3) (v := .ref (P 24)) (C := RX3) (T := TX3) (N := 7) hx hb hgt iwX3 hown hK hP 50 gX_50 rfl 0 (Nat.le_of_ble_eq_true rfl) (hgt _ wd_1_126) (fun _ h9 => h9) rfl dX3_setLoose_22 ?_
  refine va_get (D := D) (ci := 6) (v := .ref (P 42)) (C := RX6) (T := TX6) (N := 13) hx hb hgt iwX6 hown hK hP 24 gX_24 rfl 11 (Nat.le_of_ble_eq_true rfl) (hgt _ wd_1_44) (fun _ h9 => h9) rfl dX3_setLoose_25 ?_
  refine lv_iload_n hx hb dX3_setLoose_28 rfl (lv_at hl 2 rfl) ?_
  refine va_iald hx hb hK hP 42 0 gX_42 rfl (ix_l h) dX3_setLoose_29 ?_
  have h := ix_r h
  refine lv_iconst (v := (-1)) hx hb dX3_setLoose_30 (by decide) ?_
  refine lv_ixor hx hb dX3_setLoose_31 ?_
  refine lv_iand hx hb dX3_setLoose_32 ?_
  refine lv_iload_n hx hb dX3_setLoose_33 rfl (lv_at hl 3 rfl) ?_
  refine lv_aload_n hx hb dX3_setLoose_34 rfl (lv_at hl 1 rfl) ?_
  refine va_get (D := D) (ci := 3) (v := .ref (P 24)) (C := RX3) (T := TX3) (N := 7) hx hb hgt iwX3 hown hK hP 50 gX_50 rfl 0 (Nat.le_of_ble_eq_true rfl) (hgt _ wd_1_126) (fun _ h9 => h9) rfl dX3_setLoose_35 ?_
  refine va_get (D := D) (ci := 6) (v := .ref (P 40)) (C := RX6) (T := TX6) (N := 13) hx hb hgt iwX6 hown hK hP 24 gX_24 rfl 9 (Nat.le_of_ble_eq_true rfl) (hgt _ wd_1_37) (fun _ h9 => h9) rfl dX3_setLoose_38 ?_
  refine lv_iload_n hx hb dX3_setLoose_41 rfl (lv_at hl 2 rfl) ?_
  refine va_iald hx hb hK hP 40 0 gX_40 rfl (ix_l h) dX3_setLoose_42 ?_
  have h := ix_r h
  refine lv_ishl hx hb dX3_setLoose_43 ?_
  refine lv_ior hx hb dX3_setLoose_44 ?_
  refine pm_iast (w := (wX cI cZ cC cJ cA P)) hx hb hK hP hD hS 57 0 gX_57 rfl sX_57 (ix_l h) dX3_setLoose_45 (fun M2 eM2 H locs hP hD hS => ?_)
  have h := ix_r h
  have h := lt_o eM2 h
  exact rt_v (w := (wX cI cZ cC cJ cA P)) (r := r') hx hb hr hlk hP hD hS h dX3_setLoose_46
set_option maxHeartbeats 4000000 in
set_option maxRecDepth 20000 in
theorem z_Device_setLoose (l : Launch) (D : va_G) (cI cZ cC cJ cA : ClassId) (P : Nat → Nat) (s0 : State) (hAO : ∀ q, (aP P 77) q → s0.heap.size ≤ q) (M : Mm) (a1 : Int32) (a2 : Int32) (M' : Mm) (r' : Int32) (h : q_Device_setLoose M a1 a2 = some (M', r')) : Met l yX3_setLoose wsX3_setLoose ({ frames := 0, cells := 0, slots := 0, locals := 0 }) (va_Pc [.ref (P 50), .int a1, .int a2] (gPre s0 D [(cI, .int), (cZ, .boolean), (cC, .char), (cJ, .long), (cA, .array .int)] (aP P 77) ((wX cI cZ cC cJ cA P) M))) (gQv D (aP P 77) ((wX cI cZ cC cJ cA P) M')) 0 0 (aP P 77) := by
  refine Met.ofW (cc := cX3_setLoose) (maxL := 4) (ret := none) (by decide) rfl ?_
  intro p e s m args below meth c s₁ B hml hv
  obtain ⟨rfl, hP, hK, hD, hO⟩ := hv
  have hx := B.exec
  have hb := B.bytes
  have hr := B.returns
  have hlk := B.notSynchronized
  have hgt := fun w (h : w ∈ GT) => atoms_spec (ws := wsX3_setLoose) B.pre w (List.mem_cons_of_mem _ h)
  have hown : s.vm.findClass RX3 = some m.cls := findClass_of_methodNamed B.named
  have hS : va_S (aP P 77) s.heap s.heap [] := va_S.rf
  have hl := lv_entry ([.ref (P 50), .int a1, .int a2]) (n := 4) (Nat.le_of_ble_eq_true rfl)
  rw [lg_entry_eq]
  generalize (lg_sl ([.ref (P 50), .int a1, .int a2]) ++ List.replicate (4 - (lg_sl ([.ref (P 50), .int a1, .int a2])).length) Slot.unset).toArray = ls at hl ⊢
  have hl : lv_has ls 4 [(0, .ref (P 50)), (1, .int a1), (2, .int a2)] := hl
  exact b_Device_setLoose_0 hx hb hml hr hlk hgt hown hK hO hAO M a1 a2 s.heap [] ls hl hP hD hS h
def q_Device_startPulses_68 (kf2 : Mm → Int32 → Int32 → Int32 → Rs) (M : Mm) (v1 : Int32) (v2 : Int32) (v3 : Int32) : Rs := kf2 M v1 v2 (v3 + 1)
def q_Device_startPulses_2  : Nat → Mm → Int32 → Int32 → Int32 → Rs
  | 0, _, _, _, _ => none
  | n' + 1, M, v1, v2, v3 => if 26 ≤ v3 then (some (M, 0)) else (ix v3 26 <| if (M.1 38 (v3 : Int32).toNatClampNeg) = v1 then (ix v3 26 <| if (M.1 39 (v3 : Int32).toNatClampNeg) = 6 then (cal (q_Layout_bitsOf M v3 v2) fun M1 r2 => if r2 = 0 then (q_Device_startPulses_68 (q_Device_startPulses_2 n') M1 v1 v2 v3) else (cal (q_Layout_bitsOf M1 v3 v2) fun M3 r4 => cal (q_Device_setLoose M3 v3 r4) fun M5 r6 => ix v3 26 <| lt' (stI M5 59 (upd (M5.1 59) (v3 : Int32).toNatClampNeg 2)) fun M7 => q_Device_startPulses_68 (q_Device_startPulses_2 n') M7 v1 v2 v3)) else (q_Device_startPulses_68 (q_Device_startPulses_2 n') M v1 v2 v3)) else (q_Device_startPulses_68 (q_Device_startPulses_2 n') M v1 v2 v3))
def q_Device_startPulses  (M : Mm) (a1 : Int32) (a2 : Int32) : Rs := q_Device_startPulses_2 4000 M a1 a2 0
set_option maxHeartbeats 4000000 in
set_option maxRecDepth 20000 in
theorem b_Device_startPulses_68 {p : Program} {l : Launch} {e : Env} {s s0 : State} {m : MethodId} {args : Array Value} {below : List Frame} {meth : Method} {c : Code} {D : va_G} {cI cZ cC cJ cA : ClassId} {P : Nat → Nat} {M' : Mm} {r' : Int32} {kf2 : Mm → Int32 → Int32 → Int32 → Rs} (hx : p.tables.exec = Jvm.exec) (hb : c.code = cX3_startPulses) (hml : c.maxLocals = 4) (hr : meth.sig.returnType = none) (hlk : meth.locks = false) (hgt : ∀ w ∈ GT, w.before args s = true) (hown : s.vm.findClass RX3 = some m.cls) (hK : va_K D vwCl [(cI, .int), (cZ, .boolean), (cC, .char), (cJ, .long), (cA, .array .int)] s) (hO : Old s0 s) (hAO : ∀ q, (aP P 77) q → s0.heap.size ≤ q) (kk2 : ∀ (M : Mm) (v1 : Int32) (v2 : Int32) (v3 : Int32) (H : Heap) (locs : List Loc) (ls : Array Slot), lv_has ls 4 [(0, .ref (P 50)), (1, .int v1), (2, .int v2), (3, .int v3)] → va_P D vwCl ((wX cI cZ cC cJ cA P) M) H → va_D (aP P 77) ((wX cI cZ cC cJ cA P) M) → va_S (aP P 77) s.heap H locs → kf2 M v1 v2 v3 = some (M', r') → W p l e ({ frames := 1, cells := 0, slots := 0, locals := 23 }) s m args below meth c H locs 0 0 (MQ below (gQv D (aP P 77) ((wX cI cZ cC cJ cA P) M')) args s 0 0 (aP P 77)) (F0 m 2 ls [])) : ∀ (M : Mm) (v1 : Int32) (v2 : Int32) (v3 : Int32) (H : Heap) (locs : List Loc) (ls : Array Slot), lv_has ls 4 [(0, .ref (P 50)), (1, .int v1), (2, .int v2), (3, .int v3)] → va_P D vwCl ((wX cI cZ cC cJ cA P) M) H → va_D (aP P 77) ((wX cI cZ cC cJ cA P) M) → va_S (aP P 77) s.heap H locs → q_Device_startPulses_68 kf2 M v1 v2 v3 = some (M', r') → W p l e ({ frames := 1, cells := 0, slots := 0, locals := 23 }) s m args below meth c H locs 0 0 (MQ below (gQv D (aP P 77) ((wX cI cZ cC cJ cA P) M')) args s 0 0 (aP P 77)) (F0 m 68 ls []) := by
  intro M v1 v2 v3 H locs ls hl hP hD hS h
  unfold q_Device_startPulses_68 at h
  refine lv_iinc (v := (v3 + 1)) hx hb dX3_startPulses_68 hl (k := 3) rfl rfl (Nat.le_of_ble_eq_true rfl) (lv' := [(3, .int (v3 + 1)), (0, .ref (P 50)), (1, .int v1), (2, .int v2)]) rfl (fun ls hl => ?_)
  refine lv_goto hx hb dX3_startPulses_71 (tgt := 2) rfl ?_
  have hl := lv_sub hl [1, 2, 3, 0] (l' := [(0, .ref (P 50)), (1, .int v1), (2, .int v2), (3, .int (v3 + 1))]) rfl
  exact kk2 M v1 v2 (v3 + 1) H locs ls hl hP hD hS h
set_option maxHeartbeats 4000000 in
set_option maxRecDepth 20000 in
theorem b_Device_startPulses_2 {p : Program} {l : Launch} {e : Env} {s s0 : State} {m : MethodId} {args : Array Value} {below : List Frame} {meth : Method} {c : Code} {D : va_G} {cI cZ cC cJ cA : ClassId} {P : Nat → Nat} {M' : Mm} {r' : Int32}  (hx : p.tables.exec = Jvm.exec) (hb : c.code = cX3_startPulses) (hml : c.maxLocals = 4) (hr : meth.sig.returnType = none) (hlk : meth.locks = false) (hgt : ∀ w ∈ GT, w.before args s = true) (hown : s.vm.findClass RX3 = some m.cls) (hK : va_K D vwCl [(cI, .int), (cZ, .boolean), (cC, .char), (cJ, .long), (cA, .array .int)] s) (hO : Old s0 s) (hAO : ∀ q, (aP P 77) q → s0.heap.size ≤ q)  : ∀ (n' : Nat) (M : Mm) (v1 : Int32) (v2 : Int32) (v3 : Int32) (H : Heap) (locs : List Loc) (ls : Array Slot), lv_has ls 4 [(0, .ref (P 50)), (1, .int v1), (2, .int v2), (3, .int v3)] → va_P D vwCl ((wX cI cZ cC cJ cA P) M) H → va_D (aP P 77) ((wX cI cZ cC cJ cA P) M) → va_S (aP P 77) s.heap H locs → q_Device_startPulses_2 n' M v1 v2 v3 = some (M', r') → W p l e ({ frames := 1, cells := 0, slots := 0, locals := 23 }) s m args below meth c H locs 0 0 (MQ below (gQv D (aP P 77) ((wX cI cZ cC cJ cA P) M')) args s 0 0 (aP P 77)) (F0 m 2 ls []) := by
  intro n'
  induction n' with
  | zero => exact fun _ _ _ _ _ _ _ _ _ _ _ h => (rs_n h).elim
  | succ n' ih =>
    intro M v1 v2 v3 H locs ls hl hP hD hS h
    rw [q_Device_startPulses_2] at h
    refine lv_iload_n hx hb dX3_startPulses_2 rfl (lv_at hl 3 rfl) ?_
    refine lv_bipush (v := 26) hx hb dX3_startPulses_3 (by decide) ?_
    refine lv_icmp_ge hx hb dX3_startPulses_5 (tgt := 74) rfl (fun hc => ?_) (fun hc => ?_)
    · have h := br_T hc h
      exact rt_v (w := (wX cI cZ cC cJ cA P)) (r := r') hx hb hr hlk hP hD hS h dX3_startPulses_74
    · have h := br_F hc h
      refine lv_aload_n hx hb dX3_startPulses_8 rfl (lv_at hl 0 rfl) ?_
      refine va_get (D := D) (ci := 3) (v := .ref (P 24)) (C := RX3) (T := TX3) (N := 7) hx hb hgt iwX3 hown hK hP 50 gX_50 rfl 0 (Nat.le_of_ble_eq_true rfl) (hgt _ wd_1_126) (fun _ h9 => h9) rfl dX3_startPulses_9 ?_
      refine va_get (D := D) (ci := 6) (v := .ref (P 38)) (C := RX6) (T := TX6) (N := 13) hx hb hgt iwX6 hown hK hP 24 gX_24 rfl 7 (Nat.le_of_ble_eq_true rfl) (hgt _ wd_1_26) (fun _ h9 => h9) rfl dX3_startPulses_12 ?_
      refine lv_iload_n hx hb dX3_startPulses_15 rfl (lv_at hl 3 rfl) ?_
      refine va_iald hx hb hK hP 38 0 gX_38 rfl (ix_l h) dX3_startPulses_16 ?_
      have h := ix_r h
      refine lv_iload_n hx hb dX3_startPulses_17 rfl (lv_at hl 1 rfl) ?_
      refine lv_icmp_ne hx hb dX3_startPulses_18 (tgt := 68) rfl (fun hc => ?_) (fun hc => ?_)
      · have h := br_F hc h
        have hl := lv_sub hl [0, 1, 2, 3] (l' := [(0, .ref (P 50)), (1, .int v1), (2, .int v2), (3, .int v3)]) rfl
        exact b_Device_startPulses_68 hx hb hml hr hlk hgt hown hK hO hAO ih M v1 v2 v3 H _ ls hl hP hD hS h
      · have h := br_T hc h
        refine lv_aload_n hx hb dX3_startPulses_21 rfl (lv_at hl 0 rfl) ?_
        refine va_get (D := D) (ci := 3) (v := .ref (P 24)) (C := RX3) (T := TX3) (N := 7) hx hb hgt iwX3 hown hK hP 50 gX_50 rfl 0 (Nat.le_of_ble_eq_true rfl) (hgt _ wd_1_126) (fun _ h9 => h9) rfl dX3_startPulses_22 ?_
        refine va_get (D := D) (ci := 6) (v := .ref (P 39)) (C := RX6) (T := TX6) (N := 13) hx hb hgt iwX6 hown hK hP 24 gX_24 rfl 8 (Nat.le_of_ble_eq_true rfl) (hgt _ wd_1_32) (fun _ h9 => h9) rfl dX3_startPulses_25 ?_
        refine lv_iload_n hx hb dX3_startPulses_28 rfl (lv_at hl 3 rfl) ?_
        refine va_iald hx hb hK hP 39 0 gX_39 rfl (ix_l h) dX3_startPulses_29 ?_
        have h := ix_r h
        refine lv_bipush (v := 6) hx hb dX3_startPulses_30 (by decide) ?_
        refine lv_icmp_ne hx hb dX3_startPulses_32 (tgt := 68) rfl (fun hc => ?_) (fun hc => ?_)
        · have h := br_F hc h
          have hl := lv_sub hl [0, 1, 2, 3] (l' := [(0, .ref (P 50)), (1, .int v1), (2, .int v2), (3, .int v3)]) rfl
          exact b_Device_startPulses_68 hx hb hml hr hlk hgt hown hK hO hAO ih M v1 v2 v3 H _ ls hl hP hD hS h
        · have h := br_T hc h
          refine lv_aload_n hx hb dX3_startPulses_35 rfl (lv_at hl 0 rfl) ?_
          refine va_get (D := D) (ci := 3) (v := .ref (P 24)) (C := RX3) (T := TX3) (N := 7) hx hb hgt iwX3 hown hK hP 50 gX_50 rfl 0 (Nat.le_of_ble_eq_true rfl) (hgt _ wd_1_126) (fun _ h9 => h9) rfl dX3_startPulses_36 ?_
          refine lv_iload_n hx hb dX3_startPulses_39 rfl (lv_at hl 3 rfl) ?_
          refine lv_iload_n hx hb dX3_startPulses_40 rfl (lv_at hl 2 rfl) ?_
          obtain ⟨M1, r2, hq, h⟩ := cal_o h
          refine cx_i (va_runV (As := [.int v3, .int v2]) (rest := []) ⟨hx, hb, hml, hown, hgt⟩ (z_Layout_bitsOf l D cI cZ cC cJ cA P s0 hAO M v3 v2 M1 r2 hq) (cwV 2 hgt (gV wd_2_72 wd_2_73 wd_2_74 wd_0_6 wd_2_75) rfl rfl rfl (by decide +kernel) ⟨Nat.le_of_ble_eq_true rfl, Nat.le_of_ble_eq_true rfl⟩) (prV hP hK hD hO hAO hS (va_recv hK hP (ci := 6) (q0 := 24) rfl gX_24)) rfl rfl hl.1 rfl (lv_room (Nat.le_of_ble_eq_true rfl)) dX3_startPulses_41 ⟨Nat.le_of_ble_eq_true rfl, Nat.le_of_ble_eq_true rfl⟩) hS (fun H locs hP hD hS => ?_)
          refine lv_if_eq hx hb dX3_startPulses_44 (tgt := 68) rfl (fun hc => ?_) (fun hc => ?_)
          · have h := br_T hc h
            have hl := lv_sub hl [0, 1, 2, 3] (l' := [(0, .ref (P 50)), (1, .int v1), (2, .int v2), (3, .int v3)]) rfl
            exact b_Device_startPulses_68 hx hb hml hr hlk hgt hown hK hO hAO ih M1 v1 v2 v3 H _ ls hl hP hD hS h
          · have h := br_F hc h
            refine lv_aload_n hx hb dX3_startPulses_47 rfl (lv_at hl 0 rfl) ?_
            refine lv_iload_n hx hb dX3_startPulses_48 rfl (lv_at hl 3 rfl) ?_
            refine lv_aload_n hx hb dX3_startPulses_49 rfl (lv_at hl 0 rfl) ?_
            refine va_get (D := D) (ci := 3) (v := .ref (P 24)) (C := RX3) (T := TX3) (N := 7) hx hb hgt iwX3 hown hK hP 50 gX_50 rfl 0 (Nat.le_of_ble_eq_true rfl) (hgt _ wd_1_126) (fun _ h9 => h9) rfl dX3_startPulses_50 ?_
            refine lv_iload_n hx hb dX3_startPulses_53 rfl (lv_at hl 3 rfl) ?_
            refine lv_iload_n hx hb dX3_startPulses_54 rfl (lv_at hl 2 rfl) ?_
            obtain ⟨M3, r4, hq, h⟩ := cal_o h
            refine cx_i (va_runV (As := [.int v3, .int v2]) (rest := [.int v3, .ref (P 50)]) ⟨hx, hb, hml, hown, hgt⟩ (z_Layout_bitsOf l D cI cZ cC cJ cA P s0 hAO M1 v3 v2 M3 r4 hq) (cwV 2 hgt (gV wd_2_72 wd_2_73 wd_2_74 wd_0_6 wd_2_75) rfl rfl rfl (by decide +kernel) ⟨Nat.le_of_ble_eq_true rfl, Nat.le_of_ble_eq_true rfl⟩) (prV hP hK hD hO hAO hS (va_recv hK hP (ci := 6) (q0 := 24) rfl gX_24)) rfl rfl hl.1 rfl (lv_room (Nat.le_of_ble_eq_true rfl)) dX3_startPulses_55 ⟨Nat.le_of_ble_eq_true rfl, Nat.le_of_ble_eq_true rfl⟩) hS (fun H locs hP hD hS => ?_)
            obtain ⟨M5, r6, hq, h⟩ := cal_o h
            refine cx_v (va_runV (As := [.int v3, .int r4]) (rest := []) ⟨hx, hb, hml, hown, hgt⟩ (z_Device_setLoose l D cI cZ cC cJ cA P s0 hAO M3 v3 r4 M5 r6 hq) (cwV 2 hgt (gV wd_2_139 wd_2_140 wd_2_141 wd_0_9 wd_2_142) rfl rfl rfl (by decide +kernel) ⟨Nat.le_of_ble_eq_true rfl, Nat.le_of_ble_eq_true rfl⟩) (prV hP hK hD hO hAO hS (va_recv hK hP (ci := 3) (q0 := 50) rfl gX_50)) rfl rfl hl.1 rfl (lv_room (Nat.le_of_ble_eq_true rfl)) dX3_startPulses_58 ⟨Nat.le_of_ble_eq_true rfl, Nat.le_of_ble_eq_true rfl⟩) hS (fun H locs hP hD hS => ?_)
            refine lv_aload_n hx hb dX3_startPulses_61 rfl (lv_at hl 0 rfl) ?_
            refine va_get (D := D) (ci := 3) (v := .ref (P 59)) (C := RX3) (T := TX3) (N := 7) hx hb hgt iwX3 hown hK hP 50 gX_50 rfl 6 (Nat.le_of_ble_eq_true rfl) (hgt _ wd_1_136) (fun _ h9 => h9) rfl dX3_startPulses_62 ?_
            refine lv_iload_n hx hb dX3_startPulses_65 rfl (lv_at hl 3 rfl) ?_
            refine lv_iconst (v := 2) hx hb dX3_startPulses_66 (by decide) ?_
            refine pm_iast (w := (wX cI cZ cC cJ cA P)) hx hb hK hP hD hS 59 0 gX_59 rfl sX_59 (ix_l h) dX3_startPulses_67 (fun M7 eM7 H locs hP hD hS => ?_)
            have h := ix_r h
            have h := lt_o eM7 h
            have hl := lv_sub hl [0, 1, 2, 3] (l' := [(0, .ref (P 50)), (1, .int v1), (2, .int v2), (3, .int v3)]) rfl
            exact b_Device_startPulses_68 hx hb hml hr hlk hgt hown hK hO hAO ih M7 v1 v2 v3 H _ ls hl hP hD hS h
set_option maxHeartbeats 4000000 in
set_option maxRecDepth 20000 in
theorem b_Device_startPulses_0 {p : Program} {l : Launch} {e : Env} {s s0 : State} {m : MethodId} {args : Array Value} {below : List Frame} {meth : Method} {c : Code} {D : va_G} {cI cZ cC cJ cA : ClassId} {P : Nat → Nat} {M' : Mm} {r' : Int32}  (hx : p.tables.exec = Jvm.exec) (hb : c.code = cX3_startPulses) (hml : c.maxLocals = 4) (hr : meth.sig.returnType = none) (hlk : meth.locks = false) (hgt : ∀ w ∈ GT, w.before args s = true) (hown : s.vm.findClass RX3 = some m.cls) (hK : va_K D vwCl [(cI, .int), (cZ, .boolean), (cC, .char), (cJ, .long), (cA, .array .int)] s) (hO : Old s0 s) (hAO : ∀ q, (aP P 77) q → s0.heap.size ≤ q)  : ∀ (M : Mm) (a1 : Int32) (a2 : Int32) (H : Heap) (locs : List Loc) (ls : Array Slot), lv_has ls 4 [(0, .ref (P 50)), (1, .int a1), (2, .int a2)] → va_P D vwCl ((wX cI cZ cC cJ cA P) M) H → va_D (aP P 77) ((wX cI cZ cC cJ cA P) M) → va_S (aP P 77) s.heap H locs → q_Device_startPulses M a1 a2 = some (M', r') → W p l e ({ frames := 1, cells := 0, slots := 0, locals := 23 }) s m args below meth c H locs 0 0 (MQ below (gQv D (aP P 77) ((wX cI cZ cC cJ cA P) M')) args s 0 0 (aP P 77)) (F0 m 0 ls []) := by
  intro M a1 a2 H locs ls hl hP hD hS h
  unfold q_Device_startPulses at h
  refine lv_iconst (v := 0) hx hb dX3_startPulses_0 (by decide) ?_
  refine lv_istore_n hx hb dX3_startPulses_1 rfl hl (Nat.le_of_ble_eq_true rfl) (lv' := [(3, .int 0), (0, .ref (P 50)), (1, .int a1), (2, .int a2)]) rfl (fun ls hl => ?_)
  have hl := lv_sub hl [1, 2, 3, 0] (l' := [(0, .ref (P 50)), (1, .int a1), (2, .int a2), (3, .int 0)]) rfl
  exact b_Device_startPulses_2 hx hb hml hr hlk hgt hown hK hO hAO 4000 M a1 a2 0 H _ ls hl hP hD hS h
set_option maxHeartbeats 4000000 in
set_option maxRecDepth 20000 in
theorem z_Device_startPulses (l : Launch) (D : va_G) (cI cZ cC cJ cA : ClassId) (P : Nat → Nat) (s0 : State) (hAO : ∀ q, (aP P 77) q → s0.heap.size ≤ q) (M : Mm) (a1 : Int32) (a2 : Int32) (M' : Mm) (r' : Int32) (h : q_Device_startPulses M a1 a2 = some (M', r')) : Met l yX3_startPulses wsX3_startPulses ({ frames := 1, cells := 0, slots := 0, locals := 23 }) (va_Pc [.ref (P 50), .int a1, .int a2] (gPre s0 D [(cI, .int), (cZ, .boolean), (cC, .char), (cJ, .long), (cA, .array .int)] (aP P 77) ((wX cI cZ cC cJ cA P) M))) (gQv D (aP P 77) ((wX cI cZ cC cJ cA P) M')) 0 0 (aP P 77) := by
  refine Met.ofW (cc := cX3_startPulses) (maxL := 4) (ret := none) (by decide) rfl ?_
  intro p e s m args below meth c s₁ B hml hv
  obtain ⟨rfl, hP, hK, hD, hO⟩ := hv
  have hx := B.exec
  have hb := B.bytes
  have hr := B.returns
  have hlk := B.notSynchronized
  have hgt := fun w (h : w ∈ GT) => atoms_spec (ws := wsX3_startPulses) B.pre w (List.mem_cons_of_mem _ h)
  have hown : s.vm.findClass RX3 = some m.cls := findClass_of_methodNamed B.named
  have hS : va_S (aP P 77) s.heap s.heap [] := va_S.rf
  have hl := lv_entry ([.ref (P 50), .int a1, .int a2]) (n := 4) (Nat.le_of_ble_eq_true rfl)
  rw [lg_entry_eq]
  generalize (lg_sl ([.ref (P 50), .int a1, .int a2]) ++ List.replicate (4 - (lg_sl ([.ref (P 50), .int a1, .int a2])).length) Slot.unset).toArray = ls at hl ⊢
  have hl : lv_has ls 4 [(0, .ref (P 50)), (1, .int a1), (2, .int a2)] := hl
  exact b_Device_startPulses_0 hx hb hml hr hlk hgt hown hK hO hAO M a1 a2 s.heap [] ls hl hP hD hS h
def q_Device_write  (M : Mm) (a1 : Int32) (a2 : Int32) : Rs := ix a1 16 <| cal (q_Log_add M 1 (M.1 25 (a1 : Int32).toNatClampNeg) a2) fun M1 r2 => cal (q_Mind_write M1 a1 a2) fun M3 r4 => ix a1 16 <| ix a1 16 <| ix a1 16 <| lt' (stI M3 57 (upd (M3.1 57) (a1 : Int32).toNatClampNeg ((M3.1 57 (a1 : Int32).toNatClampNeg) &&& ((a2 &&& (M3.1 35 (a1 : Int32).toNatClampNeg)) ^^^ (-1))))) fun M5 => ix a1 16 <| ix a1 16 <| ix a1 16 <| lt' (stI M5 57 (upd (M5.1 57) (a1 : Int32).toNatClampNeg ((M5.1 57 (a1 : Int32).toNatClampNeg) ||| (a2 &&& (M5.1 36 (a1 : Int32).toNatClampNeg))))) fun M6 => ix a1 16 <| if (a2 &&& (M6.1 37 (a1 : Int32).toNatClampNeg)) = 0 then (some (M6, 0)) else (cal (q_Device_startPulses M6 a1 a2) fun M7 r8 => some (M7, 0))
set_option maxHeartbeats 4000000 in
set_option maxRecDepth 20000 in
theorem b_Device_write_0 {p : Program} {l : Launch} {e : Env} {s s0 : State} {m : MethodId} {args : Array Value} {below : List Frame} {meth : Method} {c : Code} {D : va_G} {cI cZ cC cJ cA : ClassId} {P : Nat → Nat} {M' : Mm} {r' : Int32}  (hx : p.tables.exec = Jvm.exec) (hb : c.code = cX3_write) (hml : c.maxLocals = 3) (hr : meth.sig.returnType = none) (hlk : meth.locks = false) (hgt : ∀ w ∈ GT, w.before args s = true) (hown : s.vm.findClass RX3 = some m.cls) (hK : va_K D vwCl [(cI, .int), (cZ, .boolean), (cC, .char), (cJ, .long), (cA, .array .int)] s) (hO : Old s0 s) (hAO : ∀ q, (aP P 77) q → s0.heap.size ≤ q)  : ∀ (M : Mm) (a1 : Int32) (a2 : Int32) (H : Heap) (locs : List Loc) (ls : Array Slot), lv_has ls 3 [(0, .ref (P 50)), (1, .int a1), (2, .int a2)] → va_P D vwCl ((wX cI cZ cC cJ cA P) M) H → va_D (aP P 77) ((wX cI cZ cC cJ cA P) M) → va_S (aP P 77) s.heap H locs → q_Device_write M a1 a2 = some (M', r') → W p l e ({ frames := 2, cells := 0, slots := 0, locals := 47 }) s m args below meth c H locs 0 0 (MQ below (gQv D (aP P 77) ((wX cI cZ cC cJ cA P) M')) args s 0 0 (aP P 77)) (F0 m 0 ls []) := by
  intro M a1 a2 H locs ls hl hP hD hS h
  unfold q_Device_write at h
  refine lv_aload_n hx hb dX3_write_0 rfl (lv_at hl 0 rfl) ?_
  refine va_get (D := D) (ci := 3) (v := .ref (P 53)) (C := RX3) (T := TX3) (N := 7) hx hb hgt iwX3 hown hK hP 50 gX_50 rfl 2 (Nat.le_of_ble_eq_true rfl) (hgt _ wd_1_129) (fun _ h9 => h9) rfl dX3_write_1 ?_
  refine lv_iconst (v := 1) hx hb dX3_write_4 (by decide) ?_
  refine lv_aload_n hx hb dX3_write_5 rfl (lv_at hl 0 rfl) ?_
  refine va_get (D := D) (ci := 3) (v := .ref (P 24)) (C := RX3) (T := TX3) (N := 7) hx hb hgt iwX3 hown hK hP 50 gX_50 rfl 0 (Nat.le_of_ble_eq_true rfl) (hgt _ wd_1_126) (fun _ h9 => h9) rfl dX3_write_6 ?_
  refine va_get (D := D) (ci := 6) (v := .ref (P 25)) (C := RX6) (T := TX6) (N := 13) hx hb hgt iwX6 hown hK hP 24 gX_24 rfl 1 (Nat.le_of_ble_eq_true rfl) (hgt _ wd_1_9) (fun _ h9 => h9) rfl dX3_write_9 ?_
  refine lv_iload_n hx hb dX3_write_12 rfl (lv_at hl 1 rfl) ?_
  refine va_iald hx hb hK hP 25 0 gX_25 rfl (ix_l h) dX3_write_13 ?_
  have h := ix_r h
  refine lv_iload_n hx hb dX3_write_14 rfl (lv_at hl 2 rfl) ?_
  obtain ⟨M1, r2, hq, h⟩ := cal_o h
  refine cx_v (va_runV (As := [.int 1, .int (M.1 25 (a1 : Int32).toNatClampNeg), .int a2]) (rest := []) ⟨hx, hb, hml, hown, hgt⟩ (z_Log_add l D cI cZ cC cJ cA P s0 hAO M 1 (M.1 25 (a1 : Int32).toNatClampNeg) a2 M1 r2 hq) (cwV 3 hgt (gV wd_2_127 wd_2_128 wd_2_129 wd_0_10 wd_2_130) rfl rfl rfl (by decide +kernel) ⟨Nat.le_of_ble_eq_true rfl, Nat.le_of_ble_eq_true rfl⟩) (prV hP hK hD hO hAO hS (va_recv hK hP (ci := 7) (q0 := 53) rfl gX_53)) rfl rfl hl.1 rfl (lv_room (Nat.le_of_ble_eq_true rfl)) dX3_write_15 ⟨Nat.le_of_ble_eq_true rfl, Nat.le_of_ble_eq_true rfl⟩) hS (fun H locs hP hD hS => ?_)
  refine lv_aload_n hx hb dX3_write_18 rfl (lv_at hl 0 rfl) ?_
  refine va_get (D := D) (ci := 3) (v := .ref (P 51)) (C := RX3) (T := TX3) (N := 7) hx hb hgt iwX3 hown hK hP 50 gX_50 rfl 1 (Nat.le_of_ble_eq_true rfl) (hgt _ wd_1_127) (fun _ h9 => h9) rfl dX3_write_19 ?_
  refine lv_iload_n hx hb dX3_write_22 rfl (lv_at hl 1 rfl) ?_
  refine lv_iload_n hx hb dX3_write_23 rfl (lv_at hl 2 rfl) ?_
  obtain ⟨M3, r4, hq, h⟩ := cal_o h
  refine cx_v (va_runV (As := [.int a1, .int a2]) (rest := []) ⟨hx, hb, hml, hown, hgt⟩ (z_Mind_write l D cI cZ cC cJ cA P s0 hAO M1 a1 a2 M3 r4 hq) (cwV 2 hgt (gV wd_2_131 wd_2_132 wd_2_133 wd_0_11 wd_2_134) rfl rfl rfl (by decide +kernel) ⟨Nat.le_of_ble_eq_true rfl, Nat.le_of_ble_eq_true rfl⟩) (prV hP hK hD hO hAO hS (va_recv hK hP (ci := 8) (q0 := 51) rfl gX_51)) rfl rfl hl.1 rfl (lv_room (Nat.le_of_ble_eq_true rfl)) dX3_write_24 ⟨Nat.le_of_ble_eq_true rfl, Nat.le_of_ble_eq_true rfl⟩) hS (fun H locs hP hD hS => ?_)
  refine lv_aload_n hx hb dX3_write_27 rfl (lv_at hl 0 rfl) ?_
  refine va_get (D := D) (ci := 3) (v := .ref (P 57)) (C := RX3) (T := TX3) (N := 7) hx hb hgt iwX3 hown hK hP 50 gX_50 rfl 4 (Nat.le_of_ble_eq_true rfl) (hgt _ wd_1_133) (fun _ h9 => h9) rfl dX3_write_28 ?_
  refine lv_iload_n hx hb dX3_write_31 rfl (lv_at hl 1 rfl) ?_
  refine lv_dup2_11 hx hb dX3_write_32 rfl rfl ?_
  refine va_iald hx hb hK hP 57 0 gX_57 rfl (ix_l h) dX3_write_33 ?_
  have h := ix_r h
  refine lv_iload_n hx hb dX3_write_34 rfl (lv_at hl 2 rfl) ?_
  refine lv_aload_n hx hb dX3_write_35 rfl (lv_at hl 0 rfl) ?_
  refine va_get (D := D) (ci := 3) (v := .ref (P 24)) (C := RX3) (T := TX3) (N := 7) hx hb hgt iwX3 hown hK hP 50 gX_50 rfl 0 (Nat.le_of_ble_eq_true rfl) (hgt _ wd_1_126) (fun _ h9 => h9) rfl dX3_write_36 ?_
  refine va_get (D := D) (ci := 6) (v := .ref (P 30)) (C := RX6) (T := TX6) (N := 13) hx hb hgt iwX6 hown hK hP 24 gX_24 rfl 6 (Nat.le_of_ble_eq_true rfl) (hgt _ wd_1_24) (fun _ h9 => h9) rfl dX3_write_39 ?_
  refine lv_iconst (v := 4) hx hb dX3_write_42 (by decide) ?_
  refine pm_aald hx hb hK hP 30 4 gX_30 rfl (by unfold vp_in; decide) dX3_write_43 ?_
  refine W.eq (g2 := F0 m 44 ls [.ref (P 35), .int a2, .int (M3.1 57 (a1 : Int32).toNatClampNeg), .int a1, .ref (P 57)]) rfl ?_
  refine lv_iload_n hx hb dX3_write_44 rfl (lv_at hl 1 rfl) ?_
  refine va_iald hx hb hK hP 35 0 gX_35 rfl (ix_l h) dX3_write_45 ?_
  have h := ix_r h
  refine lv_iand hx hb dX3_write_46 ?_
  refine lv_iconst (v := (-1)) hx hb dX3_write_47 (by decide) ?_
  refine lv_ixor hx hb dX3_write_48 ?_
  refine lv_iand hx hb dX3_write_49 ?_
  refine pm_iast (w := (wX cI cZ cC cJ cA P)) hx hb hK hP hD hS 57 0 gX_57 rfl sX_57 (ix_l h) dX3_write_50 (fun M5 eM5 H locs hP hD hS => ?_)
  have h := ix_r h
  have h := lt_o eM5 h
  refine lv_aload_n hx hb dX3_write_51 rfl (lv_at hl 0 rfl) ?_
  refine va_get (D := D) (ci := 3) (v := .ref (P 57)) (C := RX3) (T := TX3) (N := 7) hx hb hgt iwX3 hown hK hP 50 gX_50 rfl 4 (Nat.le_of_ble_eq_true rfl) (hgt _ wd_1_133) (fun _ h9 => h9) rfl dX3_write_52 ?_
  refine lv_iload_n hx hb dX3_write_55 rfl (lv_at hl 1 rfl) ?_
  refine lv_dup2_11 hx hb dX3_write_56 rfl rfl ?_
  refine va_iald hx hb hK hP 57 0 gX_57 rfl (ix_l h) dX3_write_57 ?_
  have h := ix_r h
  refine lv_iload_n hx hb dX3_write_58 rfl (lv_at hl 2 rfl) ?_
  refine lv_aload_n hx hb dX3_write_59 rfl (lv_at hl 0 rfl) ?_
  refine va_get (D := D) (ci := 3) (v := .ref (P 24)) (C := RX3) (T := TX3) (N := 7) hx hb hgt iwX3 hown hK hP 50 gX_50 rfl 0 (Nat.le_of_ble_eq_true rfl) (hgt _ wd_1_126) (fun _ h9 => h9) rfl dX3_write_60 ?_
  refine va_get (D := D) (ci := 6) (v := .ref (P 30)) (C := RX6) (T := TX6) (N := 13) hx hb hgt iwX6 hown hK hP 24 gX_24 rfl 6 (Nat.le_of_ble_eq_true rfl) (hgt _ wd_1_24) (fun _ h9 => h9) rfl dX3_write_63 ?_
  refine lv_iconst (v := 5) hx hb dX3_write_66 (by decide) ?_
  refine pm_aald hx hb hK hP 30 4 gX_30 rfl (by unfold vp_in; decide) dX3_write_67 ?_
  refine W.eq (g2 := F0 m 68 ls [.ref (P 36), .int a2, .int (M5.1 57 (a1 : Int32).toNatClampNeg), .int a1, .ref (P 57)]) rfl ?_
  refine lv_iload_n hx hb dX3_write_68 rfl (lv_at hl 1 rfl) ?_
  refine va_iald hx hb hK hP 36 0 gX_36 rfl (ix_l h) dX3_write_69 ?_
  have h := ix_r h
  refine lv_iand hx hb dX3_write_70 ?_
  refine lv_ior hx hb dX3_write_71 ?_
  refine pm_iast (w := (wX cI cZ cC cJ cA P)) hx hb hK hP hD hS 57 0 gX_57 rfl sX_57 (ix_l h) dX3_write_72 (fun M6 eM6 H locs hP hD hS => ?_)
  have h := ix_r h
  have h := lt_o eM6 h
  refine lv_iload_n hx hb dX3_write_73 rfl (lv_at hl 2 rfl) ?_
  refine lv_aload_n hx hb dX3_write_74 rfl (lv_at hl 0 rfl) ?_
  refine va_get (D := D) (ci := 3) (v := .ref (P 24)) (C := RX3) (T := TX3) (N := 7) hx hb hgt iwX3 hown hK hP 50 gX_50 rfl 0 (Nat.le_of_ble_eq_true rfl) (hgt _ wd_1_126) (fun _ h9 => h9) rfl dX3_write_75 ?_
  refine va_get (D := D) (ci := 6) (v := .ref (P 30)) (C := RX6) (T := TX6) (N := 13) hx hb hgt iwX6 hown hK hP 24 gX_24 rfl 6 (Nat.le_of_ble_eq_true rfl) (hgt _ wd_1_24) (fun _ h9 => h9) rfl dX3_write_78 ?_
  refine lv_bipush (v := 6) hx hb dX3_write_81 (by decide) ?_
  refine pm_aald hx hb hK hP 30 4 gX_30 rfl (by unfold vp_in; decide) dX3_write_83 ?_
  refine W.eq (g2 := F0 m 84 ls [.ref (P 37), .int a2]) rfl ?_
  refine lv_iload_n hx hb dX3_write_84 rfl (lv_at hl 1 rfl) ?_
  refine va_iald hx hb hK hP 37 0 gX_37 rfl (ix_l h) dX3_write_85 ?_
  have h := ix_r h
  refine lv_iand hx hb dX3_write_86 ?_
  refine lv_if_eq hx hb dX3_write_87 (tgt := 96) rfl (fun hc => ?_) (fun hc => ?_)
  · have h := br_T hc h
    exact rt_v (w := (wX cI cZ cC cJ cA P)) (r := r') hx hb hr hlk hP hD hS h dX3_write_96
  · have h := br_F hc h
    refine lv_aload_n hx hb dX3_write_90 rfl (lv_at hl 0 rfl) ?_
    refine lv_iload_n hx hb dX3_write_91 rfl (lv_at hl 1 rfl) ?_
    refine lv_iload_n hx hb dX3_write_92 rfl (lv_at hl 2 rfl) ?_
    obtain ⟨M7, r8, hq, h⟩ := cal_o h
    refine cx_v (va_runV (As := [.int a1, .int a2]) (rest := []) ⟨hx, hb, hml, hown, hgt⟩ (z_Device_startPulses l D cI cZ cC cJ cA P s0 hAO M6 a1 a2 M7 r8 hq) (cwV 2 hgt (gV wd_2_135 wd_2_137 sl__ChipMap_Device____ChipMap_Device___startPulses____II_V_____ChipMap_Device___startPulses____II_V__ wd_0_9 wd_2_138) rfl rfl rfl (by decide +kernel) ⟨Nat.le_of_ble_eq_true rfl, Nat.le_of_ble_eq_true rfl⟩) (prV hP hK hD hO hAO hS (va_recv hK hP (ci := 3) (q0 := 50) rfl gX_50)) rfl rfl hl.1 rfl (lv_room (Nat.le_of_ble_eq_true rfl)) dX3_write_93 ⟨Nat.le_of_ble_eq_true rfl, Nat.le_of_ble_eq_true rfl⟩) hS (fun H locs hP hD hS => ?_)
    exact rt_v (w := (wX cI cZ cC cJ cA P)) (r := r') hx hb hr hlk hP hD hS h dX3_write_96
set_option maxHeartbeats 4000000 in
set_option maxRecDepth 20000 in
theorem z_Device_write (l : Launch) (D : va_G) (cI cZ cC cJ cA : ClassId) (P : Nat → Nat) (s0 : State) (hAO : ∀ q, (aP P 77) q → s0.heap.size ≤ q) (M : Mm) (a1 : Int32) (a2 : Int32) (M' : Mm) (r' : Int32) (h : q_Device_write M a1 a2 = some (M', r')) : Met l yX3_write wsX3_write ({ frames := 2, cells := 0, slots := 0, locals := 47 }) (va_Pc [.ref (P 50), .int a1, .int a2] (gPre s0 D [(cI, .int), (cZ, .boolean), (cC, .char), (cJ, .long), (cA, .array .int)] (aP P 77) ((wX cI cZ cC cJ cA P) M))) (gQv D (aP P 77) ((wX cI cZ cC cJ cA P) M')) 0 0 (aP P 77) := by
  refine Met.ofW (cc := cX3_write) (maxL := 3) (ret := none) (by decide) rfl ?_
  intro p e s m args below meth c s₁ B hml hv
  obtain ⟨rfl, hP, hK, hD, hO⟩ := hv
  have hx := B.exec
  have hb := B.bytes
  have hr := B.returns
  have hlk := B.notSynchronized
  have hgt := fun w (h : w ∈ GT) => atoms_spec (ws := wsX3_write) B.pre w (List.mem_cons_of_mem _ h)
  have hown : s.vm.findClass RX3 = some m.cls := findClass_of_methodNamed B.named
  have hS : va_S (aP P 77) s.heap s.heap [] := va_S.rf
  have hl := lv_entry ([.ref (P 50), .int a1, .int a2]) (n := 3) (Nat.le_of_ble_eq_true rfl)
  rw [lg_entry_eq]
  generalize (lg_sl ([.ref (P 50), .int a1, .int a2]) ++ List.replicate (3 - (lg_sl ([.ref (P 50), .int a1, .int a2])).length) Slot.unset).toArray = ls at hl ⊢
  have hl : lv_has ls 3 [(0, .ref (P 50)), (1, .int a1), (2, .int a2)] := hl
  exact b_Device_write_0 hx hb hml hr hlk hgt hown hK hO hAO M a1 a2 s.heap [] ls hl hP hD hS h
end
