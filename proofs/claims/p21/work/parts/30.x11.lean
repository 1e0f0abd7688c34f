def q_ChipMap_busRead  (M : Mm) (a1 : Int32) : Rs := cal (q_Device_registerAt M a1) fun M1 r2 => if r2 = (-1) then (some (M1, (-1))) else (cal (q_Device_read M1 r2) fun M3 r4 => some (M3, r4))
set_option maxHeartbeats 4000000 in
set_option maxRecDepth 20000 in
theorem b_ChipMap_busRead_0 {p : Program} {l : Launch} {e : Env} {s s0 : State} {m : MethodId} {args : Array Value} {below : List Frame} {meth : Method} {c : Code} {D : va_G} {cI cZ cC cJ cA : ClassId} {P : Nat → Nat} {M' : Mm} {r' : Int32}  (hx : p.tables.exec = Jvm.exec) (hb : c.code = cX0_busRead) (hml : c.maxLocals = 3) (hr : meth.sig.returnType = (some .int)) (hlk : meth.locks = false) (hgt : ∀ w ∈ GT, w.before args s = true) (hown : s.vm.findClass RX0 = some m.cls) (hK : va_K D vwCl [(cI, .int), (cZ, .boolean), (cC, .char), (cJ, .long), (cA, .array .int)] s) (hO : Old s0 s) (hAO : ∀ q, (aP P 77) q → s0.heap.size ≤ q)  : ∀ (M : Mm) (a1 : Int32) (H : Heap) (locs : List Loc) (ls : Array Slot), lv_has ls 3 [(0, .ref (P 0)), (1, .int a1)] → va_P D vwCl ((wX cI cZ cC cJ cA P) M) H → va_D (aP P 77) ((wX cI cZ cC cJ cA P) M) → va_S (aP P 77) s.heap H locs → q_ChipMap_busRead M a1 = some (M', r') → W p l e ({ frames := 3, cells := 0, slots := 0, locals := 67 }) s m args below meth c H locs 0 0 (MQ below (gQi D (aP P 77) ((wX cI cZ cC cJ cA P) M') r') args s 0 0 (aP P 77)) (F0 m 0 ls []) := by
  intro M a1 H locs ls hl hP hD hS h
  unfold q_ChipMap_busRead at h
  refine lv_aload_n hx hb dX0_busRead_0 rfl (lv_at hl 0 rfl) ?_
  refine va_get (D := D) (ci := 0) (v := .ref (P 50)) (C := RX0) (T := TX0) (N := 9) hx hb hgt iwX0 hown hK hP 0 gX_0 rfl 4 (Nat.le_of_ble_eq_true rfl) (hgt _ wd_2_21) (fun _ h9 => h9) rfl dX0_busRead_1 ?_
  refine lv_iload_n hx hb dX0_busRead_4 rfl (lv_at hl 1 rfl) ?_
  obtain ⟨M1, r2, hq, h⟩ := cal_o h
  refine cx_i (va_runV (As := [.int a1]) (rest := []) ⟨hx, hb, hml, hown, hgt⟩ (z_Device_registerAt l D cI cZ cC cJ cA P s0 hAO M a1 M1 r2 hq) (cwV 1 hgt (gV wd_2_102 wd_2_103 wd_2_104 wd_0_9 wd_2_105) rfl rfl rfl (by decide +kernel) ⟨Nat.le_of_ble_eq_true rfl, Nat.le_of_ble_eq_true rfl⟩) (prV hP hK hD hO hAO hS (va_recv hK hP (ci := 3) (q0 := 50) rfl gX_50)) rfl rfl hl.1 rfl (lv_room (Nat.le_of_ble_eq_true rfl)) dX0_busRead_5 ⟨Nat.le_of_ble_eq_true rfl, Nat.le_of_ble_eq_true rfl⟩) hS (fun H locs hP hD hS => ?_)
  refine lv_istore_n hx hb dX0_busRead_8 rfl hl (Nat.le_of_ble_eq_true rfl) (lv' := [(2, .int r2), (0, .ref (P 0)), (1, .int a1)]) rfl (fun ls hl => ?_)
  refine lv_iload_n hx hb dX0_busRead_9 rfl (lv_at hl 0 rfl) ?_
  refine lv_iconst (v := (-1)) hx hb dX0_busRead_10 (by decide) ?_
  refine lv_icmp_ne hx hb dX0_busRead_11 (tgt := 18) rfl (fun hc => ?_) (fun hc => ?_)
  · have h := br_F hc h
    refine lv_aload_n hx hb dX0_busRead_18 rfl (lv_at hl 1 rfl) ?_
    refine va_get (D := D) (ci := 0) (v := .ref (P 50)) (C := RX0) (T := TX0) (N := 9) hx hb hgt iwX0 hown hK hP 0 gX_0 rfl 4 (Nat.le_of_ble_eq_true rfl) (hgt _ wd_2_21) (fun _ h9 => h9) rfl dX0_busRead_19 ?_
    refine lv_iload_n hx hb dX0_busRead_22 rfl (lv_at hl 0 rfl) ?_
    obtain ⟨M3, r4, hq, h⟩ := cal_o h
    refine cx_i (va_runV (As := [.int r2]) (rest := []) ⟨hx, hb, hml, hown, hgt⟩ (z_Device_read l D cI cZ cC cJ cA P s0 hAO M1 r2 M3 r4 hq) (cwV 1 hgt (gV wd_2_157 wd_2_158 wd_2_159 wd_0_9 wd_2_160) rfl rfl rfl (by decide +kernel) ⟨Nat.le_of_ble_eq_true rfl, Nat.le_of_ble_eq_true rfl⟩) (prV hP hK hD hO hAO hS (va_recv hK hP (ci := 3) (q0 := 50) rfl gX_50)) rfl rfl hl.1 rfl (lv_room (Nat.le_of_ble_eq_true rfl)) dX0_busRead_23 ⟨Nat.le_of_ble_eq_true rfl, Nat.le_of_ble_eq_true rfl⟩) hS (fun H locs hP hD hS => ?_)
    exact rt_i (w := (wX cI cZ cC cJ cA P)) hx hb hr hlk hP hD hS h dX0_busRead_26
  · have h := br_T hc h
    refine lv_iconst (v := (-1)) hx hb dX0_busRead_14 (by decide) ?_
    refine lv_goto hx hb dX0_busRead_15 (tgt := 26) rfl ?_
    exact rt_i (w := (wX cI cZ cC cJ cA P)) hx hb hr hlk hP hD hS h dX0_busRead_26
set_option maxHeartbeats 4000000 in
set_option maxRecDepth 20000 in
theorem z_ChipMap_busRead (l : Launch) (D : va_G) (cI cZ cC cJ cA : ClassId) (P : Nat → Nat) (s0 : State) (hAO : ∀ q, (aP P 77) q → s0.heap.size ≤ q) (M : Mm) (a1 : Int32) (M' : Mm) (r' : Int32) (h : q_ChipMap_busRead M a1 = some (M', r')) : Met l yX0_busRead wsX0_busRead ({ frames := 3, cells := 0, slots := 0, locals := 67 }) (va_Pc [.ref (P 0), .int a1] (gPre s0 D [(cI, .int), (cZ, .boolean), (cC, .char), (cJ, .long), (cA, .array .int)] (aP P 77) ((wX cI cZ cC cJ cA P) M))) (gQi D (aP P 77) ((wX cI cZ cC cJ cA P) M') r') 0 0 (aP P 77) := by
  refine Met.ofW (cc := cX0_busRead) (maxL := 3) (ret := (some .int)) (by decide) rfl ?_
  intro p e s m args below meth c s₁ B hml hv
  obtain ⟨rfl, hP, hK, hD, hO⟩ := hv
  have hx := B.exec
  have hb := B.bytes
  have hr := B.returns
  have hlk := B.notSynchronized
  have hgt := fun w (h : w ∈ GT) => atoms_spec (ws := wsX0_busRead) B.pre w (List.mem_cons_of_mem _ h)
  have hown : s.vm.findClass RX0 = some m.cls := findClass_of_methodNamed B.named
  have hS : va_S (aP P 77) s.heap s.heap [] := va_S.rf
  have hl := lv_entry ([.ref (P 0), .int a1]) (n := 3) (Nat.le_of_ble_eq_true rfl)
  rw [lg_entry_eq]
  generalize (lg_sl ([.ref (P 0), .int a1]) ++ List.replicate (3 - (lg_sl ([.ref (P 0), .int a1])).length) Slot.unset).toArray = ls at hl ⊢
  have hl : lv_has ls 3 [(0, .ref (P 0)), (1, .int a1)] := hl
  exact b_ChipMap_busRead_0 hx hb hml hr hlk hgt hown hK hO hAO M a1 s.heap [] ls hl hP hD hS h
def q_Layout_fits  (M : Mm) (a1 : Int32) (a2 : Int32) : Rs := ix a1 26 <| if ((a2 : Int32) >>> ((M.1 41 (a1 : Int32).toNatClampNeg) &&& 31)) = 0 then (some (M, 1)) else (some (M, 0))
set_option maxHeartbeats 4000000 in
set_option maxRecDepth 20000 in
theorem b_Layout_fits_0 {p : Program} {l : Launch} {e : Env} {s s0 : State} {m : MethodId} {args : Array Value} {below : List Frame} {meth : Method} {c : Code} {D : va_G} {cI cZ cC cJ cA : ClassId} {P : Nat → Nat} {M' : Mm} {r' : Int32}  (hx : p.tables.exec = Jvm.exec) (hb : c.code = cX6_fits) (hml : c.maxLocals = 3) (hr : meth.sig.returnType = (some .boolean)) (hlk : meth.locks = false) (hgt : ∀ w ∈ GT, w.before args s = true) (hown : s.vm.findClass RX6 = some m.cls) (hK : va_K D vwCl [(cI, .int), (cZ, .boolean), (cC, .char), (cJ, .long), (cA, .array .int)] s) (hO : Old s0 s) (hAO : ∀ q, (aP P 77) q → s0.heap.size ≤ q)  : ∀ (M : Mm) (a1 : Int32) (a2 : Int32) (H : Heap) (locs : List Loc) (ls : Array Slot), lv_has ls 3 [(0, .ref (P 24)), (1, .int a1), (2, .int a2)] → va_P D vwCl ((wX cI cZ cC cJ cA P) M) H → va_D (aP P 77) ((wX cI cZ cC cJ cA P) M) → va_S (aP P 77) s.heap H locs → q_Layout_fits M a1 a2 = some (M', r') → W p l e ({ frames := 0, cells := 0, slots := 0, locals := 0 }) s m args below meth c H locs 0 0 (MQ below (gQi D (aP P 77) ((wX cI cZ cC cJ cA P) M') r') args s 0 0 (aP P 77)) (F0 m 0 ls []) := by
  intro M a1 a2 H locs ls hl hP hD hS h
  unfold q_Layout_fits at h
  refine lv_iload_n hx hb dX6_fits_0 rfl (lv_at hl 2 rfl) ?_
  refine lv_aload_n hx hb dX6_fits_1 rfl (lv_at hl 0 rfl) ?_
  refine va_get (D := D) (ci := 6) (v := .ref (P 41)) (C := RX6) (T := TX6) (N := 13) hx hb hgt iwX6 hown hK hP 24 gX_24 rfl 10 (Nat.le_of_ble_eq_true rfl) (hgt _ wd_1_39) (fun _ h9 => h9) rfl dX6_fits_2 ?_
  refine lv_iload_n hx hb dX6_fits_5 rfl (lv_at hl 1 rfl) ?_
  refine va_iald hx hb hK hP 41 0 gX_41 rfl (ix_l h) dX6_fits_6 ?_
  have h := ix_r h
  refine lv_ishr hx hb dX6_fits_7 ?_
  refine lv_if_ne hx hb dX6_fits_8 (tgt := 15) rfl (fun hc => ?_) (fun hc => ?_)
  · have h := br_F hc h
    refine lv_iconst (v := 0) hx hb dX6_fits_15 (by decide) ?_
    exact rt_z (w := (wX cI cZ cC cJ cA P)) hx hb hr hlk rfl hP hD hS h dX6_fits_16
  · have h := br_T hc h
    refine lv_iconst (v := 1) hx hb dX6_fits_11 (by decide) ?_
    refine lv_goto hx hb dX6_fits_12 (tgt := 16) rfl ?_
    exact rt_z (w := (wX cI cZ cC cJ cA P)) hx hb hr hlk rfl hP hD hS h dX6_fits_16
set_option maxHeartbeats 4000000 in
set_option maxRecDepth 20000 in
theorem z_Layout_fits (l : Launch) (D : va_G) (cI cZ cC cJ cA : ClassId) (P : Nat → Nat) (s0 : State) (hAO : ∀ q, (aP P 77) q → s0.heap.size ≤ q) (M : Mm) (a1 : Int32) (a2 : Int32) (M' : Mm) (r' : Int32) (h : q_Layout_fits M a1 a2 = some (M', r')) : Met l yX6_fits wsX6_fits ({ frames := 0, cells := 0, slots := 0, locals := 0 }) (va_Pc [.ref (P 24), .int a1, .int a2] (gPre s0 D [(cI, .int), (cZ, .boolean), (cC, .char), (cJ, .long), (cA, .array .int)] (aP P 77) ((wX cI cZ cC cJ cA P) M))) (gQi D (aP P 77) ((wX cI cZ cC cJ cA P) M') r') 0 0 (aP P 77) := by
  refine Met.ofW (cc := cX6_fits) (maxL := 3) (ret := (some .boolean)) (by decide) rfl ?_
  intro p e s m args below meth c s₁ B hml hv
  obtain ⟨rfl, hP, hK, hD, hO⟩ := hv
  have hx := B.exec
  have hb := B.bytes
  have hr := B.returns
  have hlk := B.notSynchronized
  have hgt := fun w (h : w ∈ GT) => atoms_spec (ws := wsX6_fits) B.pre w (List.mem_cons_of_mem _ h)
  have hown : s.vm.findClass RX6 = some m.cls := findClass_of_methodNamed B.named
  have hS : va_S (aP P 77) s.heap s.heap [] := va_S.rf
  have hl := lv_entry ([.ref (P 24), .int a1, .int a2]) (n := 3) (Nat.le_of_ble_eq_true rfl)
  rw [lg_entry_eq]
  generalize (lg_sl ([.ref (P 24), .int a1, .int a2]) ++ List.replicate (3 - (lg_sl ([.ref (P 24), .int a1, .int a2])).length) Slot.unset).toArray = ls at hl ⊢
  have hl : lv_has ls 3 [(0, .ref (P 24)), (1, .int a1), (2, .int a2)] := hl
  exact b_Layout_fits_0 hx hb hml hr hlk hgt hown hK hO hAO M a1 a2 s.heap [] ls hl hP hD hS h
def q_ChipMap_poke_52  (M : Mm) (v1 : Int32) (v2 : Int32) : Rs := cal (q_Device_setLoose M v1 v2) fun M1 r2 => some (M1, 1)
def q_ChipMap_poke  (M : Mm) (a1 : Int32) (a2 : Int32) : Rs := cal (q_Layout_has M a1) fun M1 r2 => if r2 = 0 then (some (M1, 0)) else (cal (q_Layout_fits M1 a1 a2) fun M3 r4 => if r4 = 0 then (some (M3, 0)) else (ix a1 26 <| lt' (M3.1 39 (a1 : Int32).toNatClampNeg) fun x5 => if x5 = 1 then (q_ChipMap_poke_52 M3 a1 a2) else (if x5 = 3 then (q_ChipMap_poke_52 M3 a1 a2) else (if x5 = 4 then (q_ChipMap_poke_52 M3 a1 a2) else (some (M3, 0))))))
set_option maxHeartbeats 4000000 in
set_option maxRecDepth 20000 in
theorem b_ChipMap_poke_52 {p : Program} {l : Launch} {e : Env} {s s0 : State} {m : MethodId} {args : Array Value} {below : List Frame} {meth : Method} {c : Code} {D : va_G} {cI cZ cC cJ cA : ClassId} {P : Nat → Nat} {M' : Mm} {r' : Int32}  (hx : p.tables.exec = Jvm.exec) (hb : c.code = cX0_poke) (hml : c.maxLocals = 4) (hr : meth.sig.returnType = (some .boolean)) (hlk : meth.locks = false) (hgt : ∀ w ∈ GT, w.before args s = true) (hown : s.vm.findClass RX0 = some m.cls) (hK : va_K D vwCl [(cI, .int), (cZ, .boolean), (cC, .char), (cJ, .long), (cA, .array .int)] s) (hO : Old s0 s) (hAO : ∀ q, (aP P 77) q → s0.heap.size ≤ q)  : ∀ (M : Mm) (v1 : Int32) (v2 : Int32) (H : Heap) (locs : List Loc) (ls : Array Slot), lv_has ls 4 [(0, .ref (P 0)), (1, .int v1), (2, .int v2)] → va_P D vwCl ((wX cI cZ cC cJ cA P) M) H → va_D (aP P 77) ((wX cI cZ cC cJ cA P) M) → va_S (aP P 77) s.heap H locs → q_ChipMap_poke_52 M v1 v2 = some (M', r') → W p l e ({ frames := 1, cells := 0, slots := 0, locals := 23 }) s m args below meth c H locs 0 0 (MQ below (gQi D (aP P 77) ((wX cI cZ cC cJ cA P) M') r') args s 0 0 (aP P 77)) (F0 m 52 ls []) := by
  intro M v1 v2 H locs ls hl hP hD hS h
  unfold q_ChipMap_poke_52 at h
  refine lv_aload_n hx hb dX0_poke_52 rfl (lv_at hl 0 rfl) ?_
  refine va_get (D := D) (ci := 0) (v := .ref (P 50)) (C := RX0) (T := TX0) (N := 9) hx hb hgt iwX0 hown hK hP 0 gX_0 rfl 4 (Nat.le_of_ble_eq_true rfl) (hgt _ wd_2_21) (fun _ h9 => h9) rfl dX0_poke_53 ?_
  refine lv_iload_n hx hb dX0_poke_56 rfl (lv_at hl 1 rfl) ?_
  refine lv_iload_n hx hb dX0_poke_57 rfl (lv_at hl 2 rfl) ?_
  obtain ⟨M1, r2, hq, h⟩ := cal_o h
  refine cx_v (va_runV (As := [.int v1, .int v2]) (rest := []) ⟨hx, hb, hml, hown, hgt⟩ (z_Device_setLoose l D cI cZ cC cJ cA P s0 hAO M v1 v2 M1 r2 hq) (cwV 2 hgt (gV wd_2_173 wd_2_140 wd_2_141 wd_0_9 wd_2_142) rfl rfl rfl (by decide +kernel) ⟨Nat.le_of_ble_eq_true rfl, Nat.le_of_ble_eq_true rfl⟩) (prV hP hK hD hO hAO hS (va_recv hK hP (ci := 3) (q0 := 50) rfl gX_50)) rfl rfl hl.1 rfl (lv_room (Nat.le_of_ble_eq_true rfl)) dX0_poke_58 ⟨Nat.le_of_ble_eq_true rfl, Nat.le_of_ble_eq_true rfl⟩) hS (fun H locs hP hD hS => ?_)
  refine lv_iconst (v := 1) hx hb dX0_poke_61 (by decide) ?_
  exact rt_z (w := (wX cI cZ cC cJ cA P)) hx hb hr hlk rfl hP hD hS h dX0_poke_62
set_option maxHeartbeats 4000000 in
set_option maxRecDepth 20000 in
theorem b_ChipMap_poke_0 {p : Program} {l : Launch} {e : Env} {s s0 : State} {m : MethodId} {args : Array Value} {below : List Frame} {meth : Method} {c : Code} {D : va_G} {cI cZ cC cJ cA : ClassId} {P : Nat → Nat} {M' : Mm} {r' : Int32}  (hx : p.tables.exec = Jvm.exec) (hb : c.code = cX0_poke) (hml : c.maxLocals = 4) (hr : meth.sig.returnType = (some .boolean)) (hlk : meth.locks = false) (hgt : ∀ w ∈ GT, w.before args s = true) (hown : s.vm.findClass RX0 = some m.cls) (hK : va_K D vwCl [(cI, .int), (cZ, .boolean), (cC, .char), (cJ, .long), (cA, .array .int)] s) (hO : Old s0 s) (hAO : ∀ q, (aP P 77) q → s0.heap.size ≤ q)  : ∀ (M : Mm) (a1 : Int32) (a2 : Int32) (H : Heap) (locs : List Loc) (ls : Array Slot), lv_has ls 4 [(0, .ref (P 0)), (1, .int a1), (2, .int a2)] → va_P D vwCl ((wX cI cZ cC cJ cA P) M) H → va_D (aP P 77) ((wX cI cZ cC cJ cA P) M) → va_S (aP P 77) s.heap H locs → q_ChipMap_poke M a1 a2 = some (M', r') → W p l e ({ frames := 1, cells := 0, slots := 0, locals := 23 }) s m args below meth c H locs 0 0 (MQ below (gQi D (aP P 77) ((wX cI cZ cC cJ cA P) M') r') args s 0 0 (aP P 77)) (F0 m 0 ls []) := by
  intro M a1 a2 H locs ls hl hP hD hS h
  unfold q_ChipMap_poke at h
  refine lv_aload_n hx hb dX0_poke_0 rfl (lv_at hl 0 rfl) ?_
  refine va_get (D := D) (ci := 0) (v := .ref (P 24)) (C := RX0) (T := TX0) (N := 9) hx hb hgt iwX0 hown hK hP 0 gX_0 rfl 3 (Nat.le_of_ble_eq_true rfl) (hgt _ wd_2_20) (fun _ h9 => h9) rfl dX0_poke_1 ?_
  refine lv_iload_n hx hb dX0_poke_4 rfl (lv_at hl 1 rfl) ?_
  obtain ⟨M1, r2, hq, h⟩ := cal_o h
  refine cx_i (va_runV (As := [.int a1]) (rest := []) ⟨hx, hb, hml, hown, hgt⟩ (z_Layout_has l D cI cZ cC cJ cA P s0 hAO M a1 M1 r2 hq) (cwV 1 hgt (gV wd_2_64 wd_2_65 wd_2_66 wd_0_6 wd_2_67) rfl rfl rfl (by decide +kernel) ⟨Nat.le_of_ble_eq_true rfl, Nat.le_of_ble_eq_true rfl⟩) (prV hP hK hD hO hAO hS (va_recv hK hP (ci := 6) (q0 := 24) rfl gX_24)) rfl rfl hl.1 rfl (lv_room (Nat.le_of_ble_eq_true rfl)) dX0_poke_5 ⟨Nat.le_of_ble_eq_true rfl, Nat.le_of_ble_eq_true rfl⟩) hS (fun H locs hP hD hS => ?_)
  refine lv_if_eq hx hb dX0_poke_8 (tgt := 23) rfl (fun hc => ?_) (fun hc => ?_)
  · have h := br_T hc h
    refine lv_iconst (v := 0) hx hb dX0_poke_23 (by decide) ?_
    exact rt_z (w := (wX cI cZ cC cJ cA P)) hx hb hr hlk rfl hP hD hS h dX0_poke_24
  · have h := br_F hc h
    refine lv_aload_n hx hb dX0_poke_11 rfl (lv_at hl 0 rfl) ?_
    refine va_get (D := D) (ci := 0) (v := .ref (P 24)) (C := RX0) (T := TX0) (N := 9) hx hb hgt iwX0 hown hK hP 0 gX_0 rfl 3 (Nat.le_of_ble_eq_true rfl) (hgt _ wd_2_20) (fun _ h9 => h9) rfl dX0_poke_12 ?_
    refine lv_iload_n hx hb dX0_poke_15 rfl (lv_at hl 1 rfl) ?_
    refine lv_iload_n hx hb dX0_poke_16 rfl (lv_at hl 2 rfl) ?_
    obtain ⟨M3, r4, hq, h⟩ := cal_o h
    refine cx_i (va_runV (As := [.int a1, .int a2]) (rest := []) ⟨hx, hb, hml, hown, hgt⟩ (z_Layout_fits l D cI cZ cC cJ cA P s0 hAO M1 a1 a2 M3 r4 hq) (cwV 2 hgt (gV wd_2_169 wd_2_170 wd_2_171 wd_0_6 wd_2_172) rfl rfl rfl (by decide +kernel) ⟨Nat.le_of_ble_eq_true rfl, Nat.le_of_ble_eq_true rfl⟩) (prV hP hK hD hO hAO hS (va_recv hK hP (ci := 6) (q0 := 24) rfl gX_24)) rfl rfl hl.1 rfl (lv_room (Nat.le_of_ble_eq_true rfl)) dX0_poke_17 ⟨Nat.le_of_ble_eq_true rfl, Nat.le_of_ble_eq_true rfl⟩) hS (fun H locs hP hD hS => ?_)
    refine lv_if_ne hx hb dX0_poke_20 (tgt := 25) rfl (fun hc => ?_) (fun hc => ?_)
    · have h := br_F hc h
      refine lv_aload_n hx hb dX0_poke_25 rfl (lv_at hl 0 rfl) ?_
      refine va_get (D := D) (ci := 0) (v := .ref (P 24)) (C := RX0) (T := TX0) (N := 9) hx hb hgt iwX0 hown hK hP 0 gX_0 rfl 3 (Nat.le_of_ble_eq_true rfl) (hgt _ wd_2_20) (fun _ h9 => h9) rfl dX0_poke_26 ?_
      refine va_get (D := D) (ci := 6) (v := .ref (P 39)) (C := RX6) (T := TX6) (N := 13) hx hb hgt iwX6 hown hK hP 24 gX_24 rfl 8 (Nat.le_of_ble_eq_true rfl) (hgt _ wd_1_33) (fun _ h9 => h9) rfl dX0_poke_29 ?_
      refine lv_iload_n hx hb dX0_poke_32 rfl (lv_at hl 1 rfl) ?_
      refine va_iald hx hb hK hP 39 0 gX_39 rfl (ix_l h) dX0_poke_33 ?_
      have h := ix_r h
      refine lv_topi (fun x5 ex5 => ?_)
      have h := lt_o ex5 h
      refine lv_istore_n hx hb dX0_poke_34 rfl hl (Nat.le_of_ble_eq_true rfl) (lv' := [(3, .int x5), (0, .ref (P 0)), (1, .int a1), (2, .int a2)]) rfl (fun ls hl => ?_)
      refine lv_iload_n hx hb dX0_poke_35 rfl (lv_at hl 0 rfl) ?_
      refine lv_iconst (v := 1) hx hb dX0_poke_36 (by decide) ?_
      refine lv_icmp_eq hx hb dX0_poke_37 (tgt := 52) rfl (fun hc => ?_) (fun hc => ?_)
      · have h := br_T hc h
        have hl := lv_sub hl [1, 2, 3] (l' := [(0, .ref (P 0)), (1, .int a1), (2, .int a2)]) rfl
        exact b_ChipMap_poke_52 hx hb hml hr hlk hgt hown hK hO hAO M3 a1 a2 H _ ls hl hP hD hS h
      · have h := br_F hc h
        refine lv_iload_n hx hb dX0_poke_40 rfl (lv_at hl 0 rfl) ?_
        refine lv_iconst (v := 3) hx hb dX0_poke_41 (by decide) ?_
        refine lv_icmp_eq hx hb dX0_poke_42 (tgt := 52) rfl (fun hc => ?_) (fun hc => ?_)
        · have h := br_T hc h
          have hl := lv_sub hl [1, 2, 3] (l' := [(0, .ref (P 0)), (1, .int a1), (2, .int a2)]) rfl
          exact b_ChipMap_poke_52 hx hb hml hr hlk hgt hown hK hO hAO M3 a1 a2 H _ ls hl hP hD hS h
        · have h := br_F hc h
          refine lv_iload_n hx hb dX0_poke_45 rfl (lv_at hl 0 rfl) ?_
          refine lv_iconst (v := 4) hx hb dX0_poke_46 (by decide) ?_
          refine lv_icmp_eq hx hb dX0_poke_47 (tgt := 52) rfl (fun hc => ?_) (fun hc => ?_)
          · have h := br_T hc h
            have hl := lv_sub hl [1, 2, 3] (l' := [(0, .ref (P 0)), (1, .int a1), (2, .int a2)]) rfl
            exact b_ChipMap_poke_52 hx hb hml hr hlk hgt hown hK hO hAO M3 a1 a2 H _ ls hl hP hD hS h
          · have h := br_F hc h
            refine lv_iconst (v := 0) hx hb dX0_poke_50 (by decide) ?_
            exact rt_z (w := (wX cI cZ cC cJ cA P)) hx hb hr hlk rfl hP hD hS h dX0_poke_51
    · have h := br_T hc h
      refine lv_iconst (v := 0) hx hb dX0_poke_23 (by decide) ?_
      exact rt_z (w := (wX cI cZ cC cJ cA P)) hx hb hr hlk rfl hP hD hS h dX0_poke_24
set_option maxHeartbeats 4000000 in
set_option maxRecDepth 20000 in
theorem z_ChipMap_poke (l : Launch) (D : va_G) (cI cZ cC cJ cA : ClassId) (P : Nat → Nat) (s0 : State) (hAO : ∀ q, (aP P 77) q → s0.heap.size ≤ q) (M : Mm) (a1 : Int32) (a2 : Int32) (M' : Mm) (r' : Int32) (h : q_ChipMap_poke M a1 a2 = some (M', r')) : Met l yX0_poke wsX0_poke ({ frames := 1, cells := 0, slots := 0, locals := 23 }) (va_Pc [.ref (P 0), .int a1, .int a2] (gPre s0 D [(cI, .int), (cZ, .boolean), (cC, .char), (cJ, .long), (cA, .array .int)] (aP P 77) ((wX cI cZ cC cJ cA P) M))) (gQi D (aP P 77) ((wX cI cZ cC cJ cA P) M') r') 0 0 (aP P 77) := by
  refine Met.ofW (cc := cX0_poke) (maxL := 4) (ret := (some .boolean)) (by decide) rfl ?_
  intro p e s m args below meth c s₁ B hml hv
  obtain ⟨rfl, hP, hK, hD, hO⟩ := hv
  have hx := B.exec
  have hb := B.bytes
  have hr := B.returns
  have hlk := B.notSynchronized
  have hgt := fun w (h : w ∈ GT) => atoms_spec (ws := wsX0_poke) B.pre w (List.mem_cons_of_mem _ h)
  have hown : s.vm.findClass RX0 = some m.cls := findClass_of_methodNamed B.named
  have hS : va_S (aP P 77) s.heap s.heap [] := va_S.rf
  have hl := lv_entry ([.ref (P 0), .int a1, .int a2]) (n := 4) (Nat.le_of_ble_eq_true rfl)
  rw [lg_entry_eq]
  generalize (lg_sl ([.ref (P 0), .int a1, .int a2]) ++ List.replicate (4 - (lg_sl ([.ref (P 0), .int a1, .int a2])).length) Slot.unset).toArray = ls at hl ⊢
  have hl : lv_has ls 4 [(0, .ref (P 0)), (1, .int a1), (2, .int a2)] := hl
  exact b_ChipMap_poke_0 hx hb hml hr hlk hgt hown hK hO hAO M a1 a2 s.heap [] ls hl hP hD hS h
def q_Layout_canPut  (M : Mm) (a1 : Int32) (a2 : Int32) : Rs := cal (q_Layout_has M a1) fun M1 r2 => if r2 = 0 then (some (M1, 0)) else (ix a1 26 <| if (M1.1 39 (a1 : Int32).toNatClampNeg) = 1 then (some (M1, 0)) else (ix a1 26 <| if (M1.1 39 (a1 : Int32).toNatClampNeg) = 3 then (some (M1, 0)) else (cal (q_Layout_fits M1 a1 a2) fun M3 r4 => if r4 = 0 then (some (M3, 0)) else (some (M3, 1)))))
set_option maxHeartbeats 4000000 in
set_option maxRecDepth 20000 in
theorem b_Layout_canPut_0 {p : Program} {l : Launch} {e : Env} {s s0 : State} {m : MethodId} {args : Array Value} {below : List Frame} {meth : Method} {c : Code} {D : va_G} {cI cZ cC cJ cA : ClassId} {P : Nat → Nat} {M' : Mm} {r' : Int32}  (hx : p.tables.exec = Jvm.exec) (hb : c.code = cX6_canPut) (hml : c.maxLocals = 3) (hr : meth.sig.returnType = (some .boolean)) (hlk : meth.locks = false) (hgt : ∀ w ∈ GT, w.before args s = true) (hown : s.vm.findClass RX6 = some m.cls) (hK : va_K D vwCl [(cI, .int), (cZ, .boolean), (cC, .char), (cJ, .long), (cA, .array .int)] s) (hO : Old s0 s) (hAO : ∀ q, (aP P 77) q → s0.heap.size ≤ q)  : ∀ (M : Mm) (a1 : Int32) (a2 : Int32) (H : Heap) (locs : List Loc) (ls : Array Slot), lv_has ls 3 [(0, .ref (P 24)), (1, .int a1), (2, .int a2)] → va_P D vwCl ((wX cI cZ cC cJ cA P) M) H → va_D (aP P 77) ((wX cI cZ cC cJ cA P) M) → va_S (aP P 77) s.heap H locs → q_Layout_canPut M a1 a2 = some (M', r') → W p l e ({ frames := 1, cells := 0, slots := 0, locals := 22 }) s m args below meth c H locs 0 0 (MQ below (gQi D (aP P 77) ((wX cI cZ cC cJ cA P) M') r') args s 0 0 (aP P 77)) (F0 m 0 ls []) := by
  intro M a1 a2 H locs ls hl hP hD hS h
  unfold q_Layout_canPut at h
  refine lv_aload_n hx hb dX6_canPut_0 rfl (lv_at hl 0 rfl) ?_
  refine lv_iload_n hx hb dX6_canPut_1 rfl (lv_at hl 1 rfl) ?_
  obtain ⟨M1, r2, hq, h⟩ := cal_o h
  refine cx_i (va_runV (As := [.int a1]) (rest := []) ⟨hx, hb, hml, hown, hgt⟩ (z_Layout_has l D cI cZ cC cJ cA P s0 hAO M a1 M1 r2 hq) (cwV 1 hgt (gV wd_2_182 wd_2_65 wd_2_66 wd_0_6 wd_2_67) rfl rfl rfl (by decide +kernel) ⟨Nat.le_of_ble_eq_true rfl, Nat.le_of_ble_eq_true rfl⟩) (prV hP hK hD hO hAO hS (va_recv hK hP (ci := 6) (q0 := 24) rfl gX_24)) rfl rfl hl.1 rfl (lv_room (Nat.le_of_ble_eq_true rfl)) dX6_canPut_2 ⟨Nat.le_of_ble_eq_true rfl, Nat.le_of_ble_eq_true rfl⟩) hS (fun H locs hP hD hS => ?_)
  refine lv_if_eq hx hb dX6_canPut_5 (tgt := 41) rfl (fun hc => ?_) (fun hc => ?_)
  · have h := br_T hc h
    refine lv_iconst (v := 0) hx hb dX6_canPut_41 (by decide) ?_
    exact rt_z (w := (wX cI cZ cC cJ cA P)) hx hb hr hlk rfl hP hD hS h dX6_canPut_42
  · have h := br_F hc h
    refine lv_aload_n hx hb dX6_canPut_8 rfl (lv_at hl 0 rfl) ?_
    refine va_get (D := D) (ci := 6) (v := .ref (P 39)) (C := RX6) (T := TX6) (N := 13) hx hb hgt iwX6 hown hK hP 24 gX_24 rfl 8 (Nat.le_of_ble_eq_true rfl) (hgt _ wd_1_30) (fun _ h9 => h9) rfl dX6_canPut_9 ?_
    refine lv_iload_n hx hb dX6_canPut_12 rfl (lv_at hl 1 rfl) ?_
    refine va_iald hx hb hK hP 39 0 gX_39 rfl (ix_l h) dX6_canPut_13 ?_
    have h := ix_r h
    refine lv_iconst (v := 1) hx hb dX6_canPut_14 (by decide) ?_
    refine lv_icmp_eq hx hb dX6_canPut_15 (tgt := 41) rfl (fun hc => ?_) (fun hc => ?_)
    · have h := br_T hc h
      refine lv_iconst (v := 0) hx hb dX6_canPut_41 (by decide) ?_
      exact rt_z (w := (wX cI cZ cC cJ cA P)) hx hb hr hlk rfl hP hD hS h dX6_canPut_42
    · have h := br_F hc h
      refine lv_aload_n hx hb dX6_canPut_18 rfl (lv_at hl 0 rfl) ?_
      refine va_get (D := D) (ci := 6) (v := .ref (P 39)) (C := RX6) (T := TX6) (N := 13) hx hb hgt iwX6 hown hK hP 24 gX_24 rfl 8 (Nat.le_of_ble_eq_true rfl) (hgt _ wd_1_30) (fun _ h9 => h9) rfl dX6_canPut_19 ?_
      refine lv_iload_n hx hb dX6_canPut_22 rfl (lv_at hl 1 rfl) ?_
      refine va_iald hx hb hK hP 39 0 gX_39 rfl (ix_l h) dX6_canPut_23 ?_
      have h := ix_r h
      refine lv_iconst (v := 3) hx hb dX6_canPut_24 (by decide) ?_
      refine lv_icmp_eq hx hb dX6_canPut_25 (tgt := 41) rfl (fun hc => ?_) (fun hc => ?_)
      · have h := br_T hc h
        refine lv_iconst (v := 0) hx hb dX6_canPut_41 (by decide) ?_
        exact rt_z (w := (wX cI cZ cC cJ cA P)) hx hb hr hlk rfl hP hD hS h dX6_canPut_42
      · have h := br_F hc h
        refine lv_aload_n hx hb dX6_canPut_28 rfl (lv_at hl 0 rfl) ?_
        refine lv_iload_n hx hb dX6_canPut_29 rfl (lv_at hl 1 rfl) ?_
        refine lv_iload_n hx hb dX6_canPut_30 rfl (lv_at hl 2 rfl) ?_
        obtain ⟨M3, r4, hq, h⟩ := cal_o h
        refine cx_i (va_runV (As := [.int a1, .int a2]) (rest := []) ⟨hx, hb, hml, hown, hgt⟩ (z_Layout_fits l D cI cZ cC cJ cA P s0 hAO M1 a1 a2 M3 r4 hq) (cwV 2 hgt (gV wd_2_183 wd_2_170 wd_2_171 wd_0_6 wd_2_172) rfl rfl rfl (by decide +kernel) ⟨Nat.le_of_ble_eq_true rfl, Nat.le_of_ble_eq_true rfl⟩) (prV hP hK hD hO hAO hS (va_recv hK hP (ci := 6) (q0 := 24) rfl gX_24)) rfl rfl hl.1 rfl (lv_room (Nat.le_of_ble_eq_true rfl)) dX6_canPut_31 ⟨Nat.le_of_ble_eq_true rfl, Nat.le_of_ble_eq_true rfl⟩) hS (fun H locs hP hD hS => ?_)
        refine lv_if_eq hx hb dX6_canPut_34 (tgt := 41) rfl (fun hc => ?_) (fun hc => ?_)
        · have h := br_T hc h
          refine lv_iconst (v := 0) hx hb dX6_canPut_41 (by decide) ?_
          exact rt_z (w := (wX cI cZ cC cJ cA P)) hx hb hr hlk rfl hP hD hS h dX6_canPut_42
        · have h := br_F hc h
          refine lv_iconst (v := 1) hx hb dX6_canPut_37 (by decide) ?_
          refine lv_goto hx hb dX6_canPut_38 (tgt := 42) rfl ?_
          exact rt_z (w := (wX cI cZ cC cJ cA P)) hx hb hr hlk rfl hP hD hS h dX6_canPut_42
set_option maxHeartbeats 4000000 in
set_option maxRecDepth 20000 in
theorem z_Layout_canPut (l : Launch) (D : va_G) (cI cZ cC cJ cA : ClassId) (P : Nat → Nat) (s0 : State) (hAO : ∀ q, (aP P 77) q → s0.heap.size ≤ q) (M : Mm) (a1 : Int32) (a2 : Int32) (M' : Mm) (r' : Int32) (h : q_Layout_canPut M a1 a2 = some (M', r')) : Met l yX6_canPut wsX6_canPut ({ frames := 1, cells := 0, slots := 0, locals := 22 }) (va_Pc [.ref (P 24), .int a1, .int a2] (gPre s0 D [(cI, .int), (cZ, .boolean), (cC, .char), (cJ, .long), (cA, .array .int)] (aP P 77) ((wX cI cZ cC cJ cA P) M))) (gQi D (aP P 77) ((wX cI cZ cC cJ cA P) M') r') 0 0 (aP P 77) := by
  refine Met.ofW (cc := cX6_canPut) (maxL := 3) (ret := (some .boolean)) (by decide) rfl ?_
  intro p e s m args below meth c s₁ B hml hv
  obtain ⟨rfl, hP, hK, hD, hO⟩ := hv
  have hx := B.exec
  have hb := B.bytes
  have hr := B.returns
  have hlk := B.notSynchronized
  have hgt := fun w (h : w ∈ GT) => atoms_spec (ws := wsX6_canPut) B.pre w (List.mem_cons_of_mem _ h)
  have hown : s.vm.findClass RX6 = some m.cls := findClass_of_methodNamed B.named
  have hS : va_S (aP P 77) s.heap s.heap [] := va_S.rf
  have hl := lv_entry ([.ref (P 24), .int a1, .int a2]) (n := 3) (Nat.le_of_ble_eq_true rfl)
  rw [lg_entry_eq]
  generalize (lg_sl ([.ref (P 24), .int a1, .int a2]) ++ List.replicate (3 - (lg_sl ([.ref (P 24), .int a1, .int a2])).length) Slot.unset).toArray = ls at hl ⊢
  have hl : lv_has ls 3 [(0, .ref (P 24)), (1, .int a1), (2, .int a2)] := hl
  exact b_Layout_canPut_0 hx hb hml hr hlk hgt hown hK hO hAO M a1 a2 s.heap [] ls hl hP hD hS h
def q_Mind_copy  (M : Mm)  : Rs := cpk 0 0 16 16 16 <| lt' (stI M 62 (va_cpy (M.1 52) (M.1 62) (0 : Int32).toNatClampNeg (0 : Int32).toNatClampNeg (16 : Int32).toNatClampNeg)) fun M1 => lt' (stI M1 61 (upd (M1.1 61) 2 (M1.1 51 2))) fun M2 => some (M2, 0)
set_option maxHeartbeats 4000000 in
set_option maxRecDepth 20000 in
theorem b_Mind_copy_0 {p : Program} {l : Launch} {e : Env} {s s0 : State} {m : MethodId} {args : Array Value} {below : List Frame} {meth : Method} {c : Code} {D : va_G} {cI cZ cC cJ cA : ClassId} {P : Nat → Nat} {M' : Mm} {r' : Int32}  (hx : p.tables.exec = Jvm.exec) (hb : c.code = cX8_copy) (hml : c.maxLocals = 2) (hr : meth.sig.returnType = none) (hlk : meth.locks = false) (hgt : ∀ w ∈ GT, w.before args s = true) (hown : s.vm.findClass RX8 = some m.cls) (hK : va_K D vwCl [(cI, .int), (cZ, .boolean), (cC, .char), (cJ, .long), (cA, .array .int)] s) (hO : Old s0 s) (hAO : ∀ q, (aP P 77) q → s0.heap.size ≤ q)  : ∀ (M : Mm)  (H : Heap) (locs : List Loc) (ls : Array Slot), lv_has ls 2 [(0, .ref (P 61)), (1, .ref (P 51))] → va_P D vwCl ((wX cI cZ cC cJ cA P) M) H → va_D (aP P 77) ((wX cI cZ cC cJ cA P) M) → va_S (aP P 77) s.heap H locs → q_Mind_copy M = some (M', r') → W p l e ({ frames := 1, cells := 0, slots := 0, locals := 64 }) s m args below meth c H locs 0 0 (MQ below (gQv D (aP P 77) ((wX cI cZ cC cJ cA P) M')) args s 0 0 (aP P 77)) (F0 m 0 ls []) := by
  intro M H locs ls hl hP hD hS h
  unfold q_Mind_copy at h
  refine lv_aload_n hx hb dX8_copy_0 rfl (lv_at hl 1 rfl) ?_
  refine va_get (D := D) (ci := 8) (v := .ref (P 52)) (C := RX8) (T := TX8) (N := 3) hx hb hgt iwX8 hown hK hP 51 gX_51 rfl 1 (Nat.le_of_ble_eq_true rfl) (hgt _ wd_1_113) (fun _ h9 => h9) rfl dX8_copy_1 ?_
  refine lv_iconst (v := 0) hx hb dX8_copy_4 (by decide) ?_
  refine lv_aload_n hx hb dX8_copy_5 rfl (lv_at hl 0 rfl) ?_
  refine va_get (D := D) (ci := 8) (v := .ref (P 62)) (C := RX8) (T := TX8) (N := 3) hx hb hgt iwX8 hown hK hP 61 gX_61 rfl 1 (Nat.le_of_ble_eq_true rfl) (hgt _ wd_1_113) (fun _ h9 => h9) rfl dX8_copy_6 ?_
  refine lv_iconst (v := 0) hx hb dX8_copy_9 (by decide) ?_
  refine lv_bipush (v := 16) hx hb dX8_copy_10 (by decide) ?_
  refine pm_cpyi (w := (wX cI cZ cC cJ cA P)) hx hb (hml.trans hl.1.symm) hown (hgt _ wd_2_192) (hgt _ wd_2_194) (hgt _ wd_2_193) (hgt _ wd_0_25) hK hP hD hS 52 62 0 gX_52 gX_62 rfl sX_62 (cpk_l h) (Nat.le_of_ble_eq_true rfl) (by decide) dX8_copy_12 (fun M1 eM1 H locs hP hD hS => ?_)
  have h := lt_o eM1 (cpk_r h)
  refine lv_aload_n hx hb dX8_copy_15 rfl (lv_at hl 0 rfl) ?_
  refine lv_aload_n hx hb dX8_copy_16 rfl (lv_at hl 1 rfl) ?_
  refine va_get (D := D) (ci := 8) (v := .int (M1.1 51 2)) (C := RX8) (T := TX8) (N := 3) hx hb hgt iwX8 hown hK hP 51 gX_51 rfl 2 (Nat.le_of_ble_eq_true rfl) (hgt _ wd_1_117) (fun _ h9 => h9) rfl dX8_copy_17 ?_
  refine pm_put (w := (wX cI cZ cC cJ cA P)) (D := D) (ci := 8) (x := (M1.1 51 2)) (ty := .int) (C := RX8) (T := TX8) (N := 3) hx hb hgt iwX8 tyX8 tyX8_ok nmX8 hown hK hP hD hS 61 gX_61 rfl 2 (Nat.le_of_ble_eq_true rfl) (hgt _ wd_1_117) (fun _ h9 => h9) rfl (by decide +kernel) rfl rfl (Nat.le_of_ble_eq_true rfl) (sX_61_2 _) dX8_copy_20 (fun M2 eM2 H locs hP hD hS => ?_)
  have h := lt_o eM2 h
  exact rt_v (w := (wX cI cZ cC cJ cA P)) (r := r') hx hb hr hlk hP hD hS h dX8_copy_23
set_option maxHeartbeats 4000000 in
set_option maxRecDepth 20000 in
theorem z_Mind_copy (l : Launch) (D : va_G) (cI cZ cC cJ cA : ClassId) (P : Nat → Nat) (s0 : State) (hAO : ∀ q, (aP P 77) q → s0.heap.size ≤ q) (M : Mm)  (M' : Mm) (r' : Int32) (h : q_Mind_copy M = some (M', r')) : Met l yX8_copy wsX8_copy ({ frames := 1, cells := 0, slots := 0, locals := 64 }) (va_Pc [.ref (P 61), .ref (P 51)] (gPre s0 D [(cI, .int), (cZ, .boolean), (cC, .char), (cJ, .long), (cA, .array .int)] (aP P 77) ((wX cI cZ cC cJ cA P) M))) (gQv D (aP P 77) ((wX cI cZ cC cJ cA P) M')) 0 0 (aP P 77) := by
  refine Met.ofW (cc := cX8_copy) (maxL := 2) (ret := none) (by decide) rfl ?_
  intro p e s m args below meth c s₁ B hml hv
  obtain ⟨rfl, hP, hK, hD, hO⟩ := hv
  have hx := B.exec
  have hb := B.bytes
  have hr := B.returns
  have hlk := B.notSynchronized
  have hgt := fun w (h : w ∈ GT) => atoms_spec (ws := wsX8_copy) B.pre w (List.mem_cons_of_mem _ h)
  have hown : s.vm.findClass RX8 = some m.cls := findClass_of_methodNamed B.named
  have hS : va_S (aP P 77) s.heap s.heap [] := va_S.rf
  have hl := lv_entry ([.ref (P 61), .ref (P 51)]) (n := 2) (Nat.le_of_ble_eq_true rfl)
  rw [lg_entry_eq]
  generalize (lg_sl ([.ref (P 61), .ref (P 51)]) ++ List.replicate (2 - (lg_sl ([.ref (P 61), .ref (P 51)])).length) Slot.unset).toArray = ls at hl ⊢
  have hl : lv_has ls 2 [(0, .ref (P 61)), (1, .ref (P 51))] := hl
  exact b_Mind_copy_0 hx hb hml hr hlk hgt hown hK hO hAO M s.heap [] ls hl hP hD hS h
def q_Plan_beginHere  (M : Mm)  : Rs := lt' (stI M 60 (upd (M.1 60) 2 0)) fun M1 => lt' (stI M1 60 (upd (M1.1 60) 5 0)) fun M2 => some (M2, 0)
set_option maxHeartbeats 4000000 in
set_option maxRecDepth 20000 in
theorem b_Plan_beginHere_0 {p : Program} {l : Launch} {e : Env} {s s0 : State} {m : MethodId} {args : Array Value} {below : List Frame} {meth : Method} {c : Code} {D : va_G} {cI cZ cC cJ cA : ClassId} {P : Nat → Nat} {M' : Mm} {r' : Int32}  (hx : p.tables.exec = Jvm.exec) (hb : c.code = cX9_beginHere) (hml : c.maxLocals = 1) (hr : meth.sig.returnType = none) (hlk : meth.locks = false) (hgt : ∀ w ∈ GT, w.before args s = true) (hown : s.vm.findClass RX9 = some m.cls) (hK : va_K D vwCl [(cI, .int), (cZ, .boolean), (cC, .char), (cJ, .long), (cA, .array .int)] s) (hO : Old s0 s) (hAO : ∀ q, (aP P 77) q → s0.heap.size ≤ q)  : ∀ (M : Mm)  (H : Heap) (locs : List Loc) (ls : Array Slot), lv_has ls 1 [(0, .ref (P 60))] → va_P D vwCl ((wX cI cZ cC cJ cA P) M) H → va_D (aP P 77) ((wX cI cZ cC cJ cA P) M) → va_S (aP P 77) s.heap H locs → q_Plan_beginHere M = some (M', r') → W p l e ({ frames := 0, cells := 0, slots := 0, locals := 0 }) s m args below meth c H locs 0 0 (MQ below (gQv D (aP P 77) ((wX cI cZ cC cJ cA P) M')) args s 0 0 (aP P 77)) (F0 m 0 ls []) := by
  intro M H locs ls hl hP hD hS h
  unfold q_Plan_beginHere at h
  refine lv_aload_n hx hb dX9_beginHere_0 rfl (lv_at hl 0 rfl) ?_
  refine lv_iconst (v := 0) hx hb dX9_beginHere_1 (by decide) ?_
  refine pm_put (w := (wX cI cZ cC cJ cA P)) (D := D) (ci := 9) (x := 0) (ty := .int) (C := RX9) (T := TX9) (N := 6) hx hb hgt iwX9 tyX9 tyX9_ok nmX9 hown hK hP hD hS 60 gX_60 rfl 2 (Nat.le_of_ble_eq_true rfl) (hgt _ wd_1_163) (fun _ h9 => h9) rfl (by decide +kernel) rfl rfl (Nat.le_of_ble_eq_true rfl) (sX_60_2 _) dX9_beginHere_2 (fun M1 eM1 H locs hP hD hS => ?_)
  have h := lt_o eM1 h
  refine lv_aload_n hx hb dX9_beginHere_5 rfl (lv_at hl 0 rfl) ?_
  refine lv_iconst (v := 0) hx hb dX9_beginHere_6 (by decide) ?_
  refine pm_put (w := (wX cI cZ cC cJ cA P)) (D := D) (ci := 9) (x := 0) (ty := .int) (C := RX9) (T := TX9) (N := 6) hx hb hgt iwX9 tyX9 tyX9_ok nmX9 hown hK hP hD hS 60 gX_60 rfl 5 (Nat.le_of_ble_eq_true rfl) (hgt _ wd_1_169) (fun _ h9 => h9) rfl (by decide +kernel) rfl rfl (Nat.le_of_ble_eq_true rfl) (sX_60_5 _) dX9_beginHere_7 (fun M2 eM2 H locs hP hD hS => ?_)
  have h := lt_o eM2 h
  exact rt_v (w := (wX cI cZ cC cJ cA P)) (r := r') hx hb hr hlk hP hD hS h dX9_beginHere_10
set_option maxHeartbeats 4000000 in
set_option maxRecDepth 20000 in
theorem z_Plan_beginHere (l : Launch) (D : va_G) (cI cZ cC cJ cA : ClassId) (P : Nat → Nat) (s0 : State) (hAO : ∀ q, (aP P 77) q → s0.heap.size ≤ q) (M : Mm)  (M' : Mm) (r' : Int32) (h : q_Plan_beginHere M = some (M', r')) : Met l yX9_beginHere wsX9_beginHere ({ frames := 0, cells := 0, slots := 0, locals := 0 }) (va_Pc [.ref (P 60)] (gPre s0 D [(cI, .int), (cZ, .boolean), (cC, .char), (cJ, .long), (cA, .array .int)] (aP P 77) ((wX cI cZ cC cJ cA P) M))) (gQv D (aP P 77) ((wX cI cZ cC cJ cA P) M')) 0 0 (aP P 77) := by
  refine Met.ofW (cc := cX9_beginHere) (maxL := 1) (ret := none) (by decide) rfl ?_
  intro p e s m args below meth c s₁ B hml hv
  obtain ⟨rfl, hP, hK, hD, hO⟩ := hv
  have hx := B.exec
  have hb := B.bytes
  have hr := B.returns
  have hlk := B.notSynchronized
  have hgt := fun w (h : w ∈ GT) => atoms_spec (ws := wsX9_beginHere) B.pre w (List.mem_cons_of_mem _ h)
  have hown : s.vm.findClass RX9 = some m.cls := findClass_of_methodNamed B.named
  have hS : va_S (aP P 77) s.heap s.heap [] := va_S.rf
  have hl := lv_entry ([.ref (P 60)]) (n := 1) (Nat.le_of_ble_eq_true rfl)
  rw [lg_entry_eq]
  generalize (lg_sl ([.ref (P 60)]) ++ List.replicate (1 - (lg_sl ([.ref (P 60)])).length) Slot.unset).toArray = ls at hl ⊢
  have hl : lv_has ls 1 [(0, .ref (P 60))] := hl
  exact b_Plan_beginHere_0 hx hb hml hr hlk hgt hown hK hO hAO M s.heap [] ls hl hP hD hS h
def q_Plan_begin  (M : Mm)  : Rs := cal (q_Mind_copy M) fun M1 r2 => cal (q_Plan_beginHere M1) fun M3 r4 => some (M3, 0)
set_option maxHeartbeats 4000000 in
set_option maxRecDepth 20000 in
theorem b_Plan_begin_0 {p : Program} {l : Launch} {e : Env} {s s0 : State} {m : MethodId} {args : Array Value} {below : List Frame} {meth : Method} {c : Code} {D : va_G} {cI cZ cC cJ cA : ClassId} {P : Nat → Nat} {M' : Mm} {r' : Int32}  (hx : p.tables.exec = Jvm.exec) (hb : c.code = cX9_begin) (hml : c.maxLocals = 2) (hr : meth.sig.returnType = none) (hlk : meth.locks = false) (hgt : ∀ w ∈ GT, w.before args s = true) (hown : s.vm.findClass RX9 = some m.cls) (hK : va_K D vwCl [(cI, .int), (cZ, .boolean), (cC, .char), (cJ, .long), (cA, .array .int)] s) (hO : Old s0 s) (hAO : ∀ q, (aP P 77) q → s0.heap.size ≤ q)  : ∀ (M : Mm)  (H : Heap) (locs : List Loc) (ls : Array Slot), lv_has ls 2 [(0, .ref (P 60)), (1, .ref (P 51))] → va_P D vwCl ((wX cI cZ cC cJ cA P) M) H → va_D (aP P 77) ((wX cI cZ cC cJ cA P) M) → va_S (aP P 77) s.heap H locs → q_Plan_begin M = some (M', r') → W p l e ({ frames := 2, cells := 0, slots := 0, locals := 85 }) s m args below meth c H locs 0 0 (MQ below (gQv D (aP P 77) ((wX cI cZ cC cJ cA P) M')) args s 0 0 (aP P 77)) (F0 m 0 ls []) := by
  intro M H locs ls hl hP hD hS h
  unfold q_Plan_begin at h
  refine lv_aload_n hx hb dX9_begin_0 rfl (lv_at hl 0 rfl) ?_
  refine va_get (D := D) (ci := 9) (v := .ref (P 61)) (C := RX9) (T := TX9) (N := 6) hx hb hgt iwX9 hown hK hP 60 gX_60 rfl 1 (Nat.le_of_ble_eq_true rfl) (hgt _ wd_1_161) (fun _ h9 => h9) rfl dX9_begin_1 ?_
  refine lv_aload_n hx hb dX9_begin_4 rfl (lv_at hl 1 rfl) ?_
  obtain ⟨M1, r2, hq, h⟩ := cal_o h
  refine cx_v (va_runV (As := [.ref (P 51)]) (rest := []) ⟨hx, hb, hml, hown, hgt⟩ (z_Mind_copy l D cI cZ cC cJ cA P s0 hAO M M1 r2 hq) (cwV 1 hgt (gV wd_2_188 wd_2_189 wd_2_190 wd_0_11 wd_2_191) rfl rfl rfl (by decide +kernel) ⟨Nat.le_of_ble_eq_true rfl, Nat.le_of_ble_eq_true rfl⟩) (prV hP hK hD hO hAO hS (va_recv hK hP (ci := 8) (q0 := 61) rfl gX_61)) rfl rfl hl.1 rfl (lv_room (Nat.le_of_ble_eq_true rfl)) dX9_begin_5 ⟨Nat.le_of_ble_eq_true rfl, Nat.le_of_ble_eq_true rfl⟩) hS (fun H locs hP hD hS => ?_)
  refine lv_aload_n hx hb dX9_begin_8 rfl (lv_at hl 0 rfl) ?_
  obtain ⟨M3, r4, hq, h⟩ := cal_o h
  refine cx_v (va_runV (As := []) (rest := []) ⟨hx, hb, hml, hown, hgt⟩ (z_Plan_beginHere l D cI cZ cC cJ cA P s0 hAO M1 M3 r4 hq) (cwV 0 hgt (gV wd_2_195 wd_2_196 wd_2_197 wd_0_12 wd_2_198) rfl rfl rfl (by decide +kernel) ⟨Nat.le_of_ble_eq_true rfl, Nat.le_of_ble_eq_true rfl⟩) (prV hP hK hD hO hAO hS (va_recv hK hP (ci := 9) (q0 := 60) rfl gX_60)) rfl rfl hl.1 rfl (lv_room (Nat.le_of_ble_eq_true rfl)) dX9_begin_9 ⟨Nat.le_of_ble_eq_true rfl, Nat.le_of_ble_eq_true rfl⟩) hS (fun H locs hP hD hS => ?_)
  exact rt_v (w := (wX cI cZ cC cJ cA P)) (r := r') hx hb hr hlk hP hD hS h dX9_begin_12
set_option maxHeartbeats 4000000 in
set_option maxRecDepth 20000 in
theorem z_Plan_begin (l : Launch) (D : va_G) (cI cZ cC cJ cA : ClassId) (P : Nat → Nat) (s0 : State) (hAO : ∀ q, (aP P 77) q → s0.heap.size ≤ q) (M : Mm)  (M' : Mm) (r' : Int32) (h : q_Plan_begin M = some (M', r')) : Met l yX9_begin wsX9_begin ({ frames := 2, cells := 0, slots := 0, locals := 85 }) (va_Pc [.ref (P 60), .ref (P 51)] (gPre s0 D [(cI, .int), (cZ, .boolean), (cC, .char), (cJ, .long), (cA, .array .int)] (aP P 77) ((wX cI cZ cC cJ cA P) M))) (gQv D (aP P 77) ((wX cI cZ cC cJ cA P) M')) 0 0 (aP P 77) := by
  refine Met.ofW (cc := cX9_begin) (maxL := 2) (ret := none) (by decide) rfl ?_
  intro p e s m args below meth c s₁ B hml hv
  obtain ⟨rfl, hP, hK, hD, hO⟩ := hv
  have hx := B.exec
  have hb := B.bytes
  have hr := B.returns
  have hlk := B.notSynchronized
  have hgt := fun w (h : w ∈ GT) => atoms_spec (ws := wsX9_begin) B.pre w (List.mem_cons_of_mem _ h)
  have hown : s.vm.findClass RX9 = some m.cls := findClass_of_methodNamed B.named
  have hS : va_S (aP P 77) s.heap s.heap [] := va_S.rf
  have hl := lv_entry ([.ref (P 60), .ref (P 51)]) (n := 2) (Nat.le_of_ble_eq_true rfl)
  rw [lg_entry_eq]
  generalize (lg_sl ([.ref (P 60), .ref (P 51)]) ++ List.replicate (2 - (lg_sl ([.ref (P 60), .ref (P 51)])).length) Slot.unset).toArray = ls at hl ⊢
  have hl : lv_has ls 2 [(0, .ref (P 60)), (1, .ref (P 51))] := hl
  exact b_Plan_begin_0 hx hb hml hr hlk hgt hown hK hO hAO M s.heap [] ls hl hP hD hS h
def q_Mind_knownValue_1  (M : Mm) (a1 : Int32) : Rs := ix a1 26 <| ix (M.1 38 (a1 : Int32).toNatClampNeg) 16 <| ix a1 26 <| ix a1 26 <| some (M, ((((M.1 62 ((M.1 38 (a1 : Int32).toNatClampNeg) : Int32).toNatClampNeg) &&& (M.1 42 (a1 : Int32).toNatClampNeg)) : Int32) >>> ((M.1 40 (a1 : Int32).toNatClampNeg) &&& 31)))
set_option maxHeartbeats 4000000 in
set_option maxRecDepth 20000 in
theorem b_Mind_knownValue_1_0 {p : Program} {l : Launch} {e : Env} {s s0 : State} {m : MethodId} {args : Array Value} {below : List Frame} {meth : Method} {c : Code} {D : va_G} {cI cZ cC cJ cA : ClassId} {P : Nat → Nat} {M' : Mm} {r' : Int32}  (hx : p.tables.exec = Jvm.exec) (hb : c.code = cX8_knownValue) (hml : c.maxLocals = 2) (hr : meth.sig.returnType = (some .int)) (hlk : meth.locks = false) (hgt : ∀ w ∈ GT, w.before args s = true) (hown : s.vm.findClass RX8 = some m.cls) (hK : va_K D vwCl [(cI, .int), (cZ, .boolean), (cC, .char), (cJ, .long), (cA, .array .int)] s) (hO : Old s0 s) (hAO : ∀ q, (aP P 77) q → s0.heap.size ≤ q)  : ∀ (M : Mm) (a1 : Int32) (H : Heap) (locs : List Loc) (ls : Array Slot), lv_has ls 2 [(0, .ref (P 61)), (1, .int a1)] → va_P D vwCl ((wX cI cZ cC cJ cA P) M) H → va_D (aP P 77) ((wX cI cZ cC cJ cA P) M) → va_S (aP P 77) s.heap H locs → q_Mind_knownValue_1 M a1 = some (M', r') → W p l e ({ frames := 0, cells := 0, slots := 0, locals := 0 }) s m args below meth c H locs 0 0 (MQ below (gQi D (aP P 77) ((wX cI cZ cC cJ cA P) M') r') args s 0 0 (aP P 77)) (F0 m 0 ls []) := by
  intro M a1 H locs ls hl hP hD hS h
  unfold q_Mind_knownValue_1 at h
  refine lv_aload_n hx hb dX8_knownValue_0 rfl (lv_at hl 0 rfl) ?_
  refine va_get (D := D) (ci := 8) (v := .ref (P 62)) (C := RX8) (T := TX8) (N := 3) hx hb hgt iwX8 hown hK hP 61 gX_61 rfl 1 (Nat.le_of_ble_eq_true rfl) (hgt _ wd_1_113) (fun _ h9 => h9) rfl dX8_knownValue_1 ?_
  refine lv_aload_n hx hb dX8_knownValue_4 rfl (lv_at hl 0 rfl) ?_
  refine va_get (D := D) (ci := 8) (v := .ref (P 24)) (C := RX8) (T := TX8) (N := 3) hx hb hgt iwX8 hown hK hP 61 gX_61 rfl 0 (Nat.le_of_ble_eq_true rfl) (hgt _ wd_1_112) (fun _ h9 => h9) rfl dX8_knownValue_5 ?_
  refine va_get (D := D) (ci := 6) (v := .ref (P 38)) (C := RX6) (T := TX6) (N := 13) hx hb hgt iwX6 hown hK hP 24 gX_24 rfl 7 (Nat.le_of_ble_eq_true rfl) (hgt _ wd_1_28) (fun _ h9 => h9) rfl dX8_knownValue_8 ?_
  refine lv_iload_n hx hb dX8_knownValue_11 rfl (lv_at hl 1 rfl) ?_
  refine va_iald hx hb hK hP 38 0 gX_38 rfl (ix_l h) dX8_knownValue_12 ?_
  have h := ix_r h
  refine va_iald hx hb hK hP 62 0 gX_62 rfl (ix_l h) dX8_knownValue_13 ?_
  have h := ix_r h
  refine lv_aload_n hx hb dX8_knownValue_14 rfl (lv_at hl 0 rfl) ?_
  refine va_get (D := D) (ci := 8) (v := .ref (P 24)) (C := RX8) (T := TX8) (N := 3) hx hb hgt iwX8 hown hK hP 61 gX_61 rfl 0 (Nat.le_of_ble_eq_true rfl) (hgt _ wd_1_112) (fun _ h9 => h9) rfl dX8_knownValue_15 ?_
  refine va_get (D := D) (ci := 6) (v := .ref (P 42)) (C := RX6) (T := TX6) (N := 13) hx hb hgt iwX6 hown hK hP 24 gX_24 rfl 11 (Nat.le_of_ble_eq_true rfl) (hgt _ wd_1_43) (fun _ h9 => h9) rfl dX8_knownValue_18 ?_
  refine lv_iload_n hx hb dX8_knownValue_21 rfl (lv_at hl 1 rfl) ?_
  refine va_iald hx hb hK hP 42 0 gX_42 rfl (ix_l h) dX8_knownValue_22 ?_
  have h := ix_r h
  refine lv_iand hx hb dX8_knownValue_23 ?_
  refine lv_aload_n hx hb dX8_knownValue_24 rfl (lv_at hl 0 rfl) ?_
  refine va_get (D := D) (ci := 8) (v := .ref (P 24)) (C := RX8) (T := TX8) (N := 3) hx hb hgt iwX8 hown hK hP 61 gX_61 rfl 0 (Nat.le_of_ble_eq_true rfl) (hgt _ wd_1_112) (fun _ h9 => h9) rfl dX8_knownValue_25 ?_
  refine va_get (D := D) (ci := 6) (v := .ref (P 40)) (C := RX6) (T := TX6) (N := 13) hx hb hgt iwX6 hown hK hP 24 gX_24 rfl 9 (Nat.le_of_ble_eq_true rfl) (hgt _ wd_1_36) (fun _ h9 => h9) rfl dX8_knownValue_28 ?_
  refine lv_iload_n hx hb dX8_knownValue_31 rfl (lv_at hl 1 rfl) ?_
  refine va_iald hx hb hK hP 40 0 gX_40 rfl (ix_l h) dX8_knownValue_32 ?_
  have h := ix_r h
  refine lv_ishr hx hb dX8_knownValue_33 ?_
  exact rt_i (w := (wX cI cZ cC cJ cA P)) hx hb hr hlk hP hD hS h dX8_knownValue_34
set_option maxHeartbeats 4000000 in
set_option maxRecDepth 20000 in
theorem z_Mind_knownValue_1 (l : Launch) (D : va_G) (cI cZ cC cJ cA : ClassId) (P : Nat → Nat) (s0 : State) (hAO : ∀ q, (aP P 77) q → s0.heap.size ≤ q) (M : Mm) (a1 : Int32) (M' : Mm) (r' : Int32) (h : q_Mind_knownValue_1 M a1 = some (M', r')) : Met l yX8_knownValue wsX8_knownValue ({ frames := 0, cells := 0, slots := 0, locals := 0 }) (va_Pc [.ref (P 61), .int a1] (gPre s0 D [(cI, .int), (cZ, .boolean), (cC, .char), (cJ, .long), (cA, .array .int)] (aP P 77) ((wX cI cZ cC cJ cA P) M))) (gQi D (aP P 77) ((wX cI cZ cC cJ cA P) M') r') 0 0 (aP P 77) := by
  refine Met.ofW (cc := cX8_knownValue) (maxL := 2) (ret := (some .int)) (by decide) rfl ?_
  intro p e s m args below meth c s₁ B hml hv
  obtain ⟨rfl, hP, hK, hD, hO⟩ := hv
  have hx := B.exec
  have hb := B.bytes
  have hr := B.returns
  have hlk := B.notSynchronized
  have hgt := fun w (h : w ∈ GT) => atoms_spec (ws := wsX8_knownValue) B.pre w (List.mem_cons_of_mem _ h)
  have hown : s.vm.findClass RX8 = some m.cls := findClass_of_methodNamed B.named
  have hS : va_S (aP P 77) s.heap s.heap [] := va_S.rf
  have hl := lv_entry ([.ref (P 61), .int a1]) (n := 2) (Nat.le_of_ble_eq_true rfl)
  rw [lg_entry_eq]
  generalize (lg_sl ([.ref (P 61), .int a1]) ++ List.replicate (2 - (lg_sl ([.ref (P 61), .int a1])).length) Slot.unset).toArray = ls at hl ⊢
  have hl : lv_has ls 2 [(0, .ref (P 61)), (1, .int a1)] := hl
  exact b_Mind_knownValue_1_0 hx hb hml hr hlk hgt hown hK hO hAO M a1 s.heap [] ls hl hP hD hS h
def q_Mind_isThere_1  (M : Mm) (a1 : Int32) : Rs := ix a1 16 <| lt' (M.1 26 (a1 : Int32).toNatClampNeg) fun x1 => if x1 = (-1) then (some (M, 1)) else (cal (q_Mind_knownValue_1 M x1) fun M2 r3 => ix a1 16 <| if r3 = (M2.1 27 (a1 : Int32).toNatClampNeg) then (some (M2, 1)) else (some (M2, 0)))
set_option maxHeartbeats 4000000 in
set_option maxRecDepth 20000 in
theorem b_Mind_isThere_1_0 {p : Program} {l : Launch} {e : Env} {s s0 : State} {m : MethodId} {args : Array Value} {below : List Frame} {meth : Method} {c : Code} {D : va_G} {cI cZ cC cJ cA : ClassId} {P : Nat → Nat} {M' : Mm} {r' : Int32}  (hx : p.tables.exec = Jvm.exec) (hb : c.code = cX8_isThere) (hml : c.maxLocals = 3) (hr : meth.sig.returnType = (some .boolean)) (hlk : meth.locks = false) (hgt : ∀ w ∈ GT, w.before args s = true) (hown : s.vm.findClass RX8 = some m.cls) (hK : va_K D vwCl [(cI, .int), (cZ, .boolean), (cC, .char), (cJ, .long), (cA, .array .int)] s) (hO : Old s0 s) (hAO : ∀ q, (aP P 77) q → s0.heap.size ≤ q)  : ∀ (M : Mm) (a1 : Int32) (H : Heap) (locs : List Loc) (ls : Array Slot), lv_has ls 3 [(0, .ref (P 61)), (1, .int a1)] → va_P D vwCl ((wX cI cZ cC cJ cA P) M) H → va_D (aP P 77) ((wX cI cZ cC cJ cA P) M) → va_S (aP P 77) s.heap H locs → q_Mind_isThere_1 M a1 = some (M', r') → W p l e ({ frames := 1, cells := 0, slots := 0, locals := 21 }) s m args below meth c H locs 0 0 (MQ below (gQi D (aP P 77) ((wX cI cZ cC cJ cA P) M') r') args s 0 0 (aP P 77)) (F0 m 0 ls []) := by
  intro M a1 H locs ls hl hP hD hS h
  unfold q_Mind_isThere_1 at h
  refine lv_aload_n hx hb dX8_isThere_0 rfl (lv_at hl 0 rfl) ?_
  refine va_get (D := D) (ci := 8) (v := .ref (P 24)) (C := RX8) (T := TX8) (N := 3) hx hb hgt iwX8 hown hK hP 61 gX_61 rfl 0 (Nat.le_of_ble_eq_true rfl) (hgt _ wd_1_112) (fun _ h9 => h9) rfl dX8_isThere_1 ?_
  refine va_get (D := D) (ci := 6) (v := .ref (P 26)) (C := RX6) (T := TX6) (N := 13) hx hb hgt iwX6 hown hK hP 24 gX_24 rfl 2 (Nat.le_of_ble_eq_true rfl) (hgt _ wd_1_11) (fun _ h9 => h9) rfl dX8_isThere_4 ?_
  refine lv_iload_n hx hb dX8_isThere_7 rfl (lv_at hl 1 rfl) ?_
  refine va_iald hx hb hK hP 26 0 gX_26 rfl (ix_l h) dX8_isThere_8 ?_
  have h := ix_r h
  refine lv_topi (fun x1 ex1 => ?_)
  have h := lt_o ex1 h
  refine lv_istore_n hx hb dX8_isThere_9 rfl hl (Nat.le_of_ble_eq_true rfl) (lv' := [(2, .int x1), (0, .ref (P 61)), (1, .int a1)]) rfl (fun ls hl => ?_)
  refine lv_iload_n hx hb dX8_isThere_10 rfl (lv_at hl 0 rfl) ?_
  refine lv_iconst (v := (-1)) hx hb dX8_isThere_11 (by decide) ?_
  refine lv_icmp_eq hx hb dX8_isThere_12 (tgt := 32) rfl (fun hc => ?_) (fun hc => ?_)
  · have h := br_T hc h
    refine lv_iconst (v := 1) hx hb dX8_isThere_32 (by decide) ?_
    refine lv_goto hx hb dX8_isThere_33 (tgt := 37) rfl ?_
    exact rt_z (w := (wX cI cZ cC cJ cA P)) hx hb hr hlk rfl hP hD hS h dX8_isThere_37
  · have h := br_F hc h
    refine lv_aload_n hx hb dX8_isThere_15 rfl (lv_at hl 1 rfl) ?_
    refine lv_iload_n hx hb dX8_isThere_16 rfl (lv_at hl 0 rfl) ?_
    obtain ⟨M2, r3, hq, h⟩ := cal_o h
    refine cx_i (va_runV (As := [.int x1]) (rest := []) ⟨hx, hb, hml, hown, hgt⟩ (z_Mind_knownValue_1 l D cI cZ cC cJ cA P s0 hAO M x1 M2 r3 hq) (cwV 1 hgt (gV wd_2_110 wd_2_111 wd_2_112 wd_0_11 wd_2_113) rfl rfl rfl (by decide +kernel) ⟨Nat.le_of_ble_eq_true rfl, Nat.le_of_ble_eq_true rfl⟩) (prV hP hK hD hO hAO hS (va_recv hK hP (ci := 8) (q0 := 61) rfl gX_61)) rfl rfl hl.1 rfl (lv_room (Nat.le_of_ble_eq_true rfl)) dX8_isThere_17 ⟨Nat.le_of_ble_eq_true rfl, Nat.le_of_ble_eq_true rfl⟩) hS (fun H locs hP hD hS => ?_)
    refine lv_aload_n hx hb dX8_isThere_20 rfl (lv_at hl 1 rfl) ?_
    refine va_get (D := D) (ci := 8) (v := .ref (P 24)) (C := RX8) (T := TX8) (N := 3) hx hb hgt iwX8 hown hK hP 61 gX_61 rfl 0 (Nat.le_of_ble_eq_true rfl) (hgt _ wd_1_112) (fun _ h9 => h9) rfl dX8_isThere_21 ?_
    refine va_get (D := D) (ci := 6) (v := .ref (P 27)) (C := RX6) (T := TX6) (N := 13) hx hb hgt iwX6 hown hK hP 24 gX_24 rfl 3 (Nat.le_of_ble_eq_true rfl) (hgt _ wd_1_14) (fun _ h9 => h9) rfl dX8_isThere_24 ?_
    refine lv_iload_n hx hb dX8_isThere_27 rfl (lv_at hl 2 rfl) ?_
    refine va_iald hx hb hK hP 27 0 gX_27 rfl (ix_l h) dX8_isThere_28 ?_
    have h := ix_r h
    refine lv_icmp_ne hx hb dX8_isThere_29 (tgt := 36) rfl (fun hc => ?_) (fun hc => ?_)
    · have h := br_F hc h
      refine lv_iconst (v := 0) hx hb dX8_isThere_36 (by decide) ?_
      exact rt_z (w := (wX cI cZ cC cJ cA P)) hx hb hr hlk rfl hP hD hS h dX8_isThere_37
    · have h := br_T hc h
      refine lv_iconst (v := 1) hx hb dX8_isThere_32 (by decide) ?_
      refine lv_goto hx hb dX8_isThere_33 (tgt := 37) rfl ?_
      exact rt_z (w := (wX cI cZ cC cJ cA P)) hx hb hr hlk rfl hP hD hS h dX8_isThere_37
set_option maxHeartbeats 4000000 in
set_option maxRecDepth 20000 in
theorem z_Mind_isThere_1 (l : Launch) (D : va_G) (cI cZ cC cJ cA : ClassId) (P : Nat → Nat) (s0 : State) (hAO : ∀ q, (aP P 77) q → s0.heap.size ≤ q) (M : Mm) (a1 : Int32) (M' : Mm) (r' : Int32) (h : q_Mind_isThere_1 M a1 = some (M', r')) : Met l yX8_isThere wsX8_isThere ({ frames := 1, cells := 0, slots := 0, locals := 21 }) (va_Pc [.ref (P 61), .int a1] (gPre s0 D [(cI, .int), (cZ, .boolean), (cC, .char), (cJ, .long), (cA, .array .int)] (aP P 77) ((wX cI cZ cC cJ cA P) M))) (gQi D (aP P 77) ((wX cI cZ cC cJ cA P) M') r') 0 0 (aP P 77) := by
  refine Met.ofW (cc := cX8_isThere) (maxL := 3) (ret := (some .boolean)) (by decide) rfl ?_
  intro p e s m args below meth c s₁ B hml hv
  obtain ⟨rfl, hP, hK, hD, hO⟩ := hv
  have hx := B.exec
  have hb := B.bytes
  have hr := B.returns
  have hlk := B.notSynchronized
  have hgt := fun w (h : w ∈ GT) => atoms_spec (ws := wsX8_isThere) B.pre w (List.mem_cons_of_mem _ h)
  have hown : s.vm.findClass RX8 = some m.cls := findClass_of_methodNamed B.named
  have hS : va_S (aP P 77) s.heap s.heap [] := va_S.rf
  have hl := lv_entry ([.ref (P 61), .int a1]) (n := 3) (Nat.le_of_ble_eq_true rfl)
  rw [lg_entry_eq]
  generalize (lg_sl ([.ref (P 61), .int a1]) ++ List.replicate (3 - (lg_sl ([.ref (P 61), .int a1])).length) Slot.unset).toArray = ls at hl ⊢
  have hl : lv_has ls 3 [(0, .ref (P 61)), (1, .int a1)] := hl
  exact b_Mind_isThere_1_0 hx hb hml hr hlk hgt hown hK hO hAO M a1 s.heap [] ls hl hP hD hS h
def q_Mind_isWritten_1  (M : Mm) (a1 : Int32) (a2 : Int32) (a3 : Int32) : Rs := ix a1 26 <| if (M.1 38 (a1 : Int32).toNatClampNeg) = a2 then (ix a2 16 <| ix a1 26 <| if ((a3 ^^^ (M.1 62 (a2 : Int32).toNatClampNeg)) &&& (M.1 42 (a1 : Int32).toNatClampNeg)) = 0 then (some (M, 0)) else (some (M, 1))) else (some (M, 0))
set_option maxHeartbeats 4000000 in
set_option maxRecDepth 20000 in
theorem b_Mind_isWritten_1_0 {p : Program} {l : Launch} {e : Env} {s s0 : State} {m : MethodId} {args : Array Value} {below : List Frame} {meth : Method} {c : Code} {D : va_G} {cI cZ cC cJ cA : ClassId} {P : Nat → Nat} {M' : Mm} {r' : Int32}  (hx : p.tables.exec = Jvm.exec) (hb : c.code = cX8_isWritten) (hml : c.maxLocals = 4) (hr : meth.sig.returnType = (some .boolean)) (hlk : meth.locks = false) (hgt : ∀ w ∈ GT, w.before args s = true) (hown : s.vm.findClass RX8 = some m.cls) (hK : va_K D vwCl [(cI, .int), (cZ, .boolean), (cC, .char), (cJ, .long), (cA, .array .int)] s) (hO : Old s0 s) (hAO : ∀ q, (aP P 77) q → s0.heap.size ≤ q)  : ∀ (M : Mm) (a1 : Int32) (a2 : Int32) (a3 : Int32) (H : Heap) (locs : List Loc) (ls : Array Slot), lv_has ls 4 [(0, .ref (P 61)), (1, .int a1), (2, .int a2), (3, .int a3)] → va_P D vwCl ((wX cI cZ cC cJ cA P) M) H → va_D (aP P 77) ((wX cI cZ cC cJ cA P) M) → va_S (aP P 77) s.heap H locs → q_Mind_isWritten_1 M a1 a2 a3 = some (M', r') → W p l e ({ frames := 0, cells := 0, slots := 0, locals := 0 }) s m args below meth c H locs 0 0 (MQ below (gQi D (aP P 77) ((wX cI cZ cC cJ cA P) M') r') args s 0 0 (aP P 77)) (F0 m 0 ls []) := by
  intro M a1 a2 a3 H locs ls hl hP hD hS h
  unfold q_Mind_isWritten_1 at h
  refine lv_aload_n hx hb dX8_isWritten_0 rfl (lv_at hl 0 rfl) ?_
  refine va_get (D := D) (ci := 8) (v := .ref (P 24)) (C := RX8) (T := TX8) (N := 3) hx hb hgt iwX8 hown hK hP 61 gX_61 rfl 0 (Nat.le_of_ble_eq_true rfl) (hgt _ wd_1_112) (fun _ h9 => h9) rfl dX8_isWritten_1 ?_
  refine va_get (D := D) (ci := 6) (v := .ref (P 38)) (C := RX6) (T := TX6) (N := 13) hx hb hgt iwX6 hown hK hP 24 gX_24 rfl 7 (Nat.le_of_ble_eq_true rfl) (hgt _ wd_1_28) (fun _ h9 => h9) rfl dX8_isWritten_4 ?_
  refine lv_iload_n hx hb dX8_isWritten_7 rfl (lv_at hl 1 rfl) ?_
  refine va_iald hx hb hK hP 38 0 gX_38 rfl (ix_l h) dX8_isWritten_8 ?_
  have h := ix_r h
  refine lv_iload_n hx hb dX8_isWritten_9 rfl (lv_at hl 2 rfl) ?_
  refine lv_icmp_eq hx hb dX8_isWritten_10 (tgt := 15) rfl (fun hc => ?_) (fun hc => ?_)
  · have h := br_T hc h
    refine lv_iload_n hx hb dX8_isWritten_15 rfl (lv_at hl 3 rfl) ?_
    refine lv_aload_n hx hb dX8_isWritten_16 rfl (lv_at hl 0 rfl) ?_
    refine va_get (D := D) (ci := 8) (v := .ref (P 62)) (C := RX8) (T := TX8) (N := 3) hx hb hgt iwX8 hown hK hP 61 gX_61 rfl 1 (Nat.le_of_ble_eq_true rfl) (hgt _ wd_1_113) (fun _ h9 => h9) rfl dX8_isWritten_17 ?_
    refine lv_iload_n hx hb dX8_isWritten_20 rfl (lv_at hl 2 rfl) ?_
    refine va_iald hx hb hK hP 62 0 gX_62 rfl (ix_l h) dX8_isWritten_21 ?_
    have h := ix_r h
    refine lv_ixor hx hb dX8_isWritten_22 ?_
    refine lv_aload_n hx hb dX8_isWritten_23 rfl (lv_at hl 0 rfl) ?_
    refine va_get (D := D) (ci := 8) (v := .ref (P 24)) (C := RX8) (T := TX8) (N := 3) hx hb hgt iwX8 hown hK hP 61 gX_61 rfl 0 (Nat.le_of_ble_eq_true rfl) (hgt _ wd_1_112) (fun _ h9 => h9) rfl dX8_isWritten_24 ?_
    refine va_get (D := D) (ci := 6) (v := .ref (P 42)) (C := RX6) (T := TX6) (N := 13) hx hb hgt iwX6 hown hK hP 24 gX_24 rfl 11 (Nat.le_of_ble_eq_true rfl) (hgt _ wd_1_43) (fun _ h9 => h9) rfl dX8_isWritten_27 ?_
    refine lv_iload_n hx hb dX8_isWritten_30 rfl (lv_at hl 1 rfl) ?_
    refine va_iald hx hb hK hP 42 0 gX_42 rfl (ix_l h) dX8_isWritten_31 ?_
    have h := ix_r h
    refine lv_iand hx hb dX8_isWritten_32 ?_
    refine lv_if_eq hx hb dX8_isWritten_33 (tgt := 40) rfl (fun hc => ?_) (fun hc => ?_)
    · have h := br_T hc h
      refine lv_iconst (v := 0) hx hb dX8_isWritten_40 (by decide) ?_
      exact rt_z (w := (wX cI cZ cC cJ cA P)) hx hb hr hlk rfl hP hD hS h dX8_isWritten_41
    · have h := br_F hc h
      refine lv_iconst (v := 1) hx hb dX8_isWritten_36 (by decide) ?_
      refine lv_goto hx hb dX8_isWritten_37 (tgt := 41) rfl ?_
      exact rt_z (w := (wX cI cZ cC cJ cA P)) hx hb hr hlk rfl hP hD hS h dX8_isWritten_41
  · have h := br_F hc h
    refine lv_iconst (v := 0) hx hb dX8_isWritten_13 (by decide) ?_
    exact rt_z (w := (wX cI cZ cC cJ cA P)) hx hb hr hlk rfl hP hD hS h dX8_isWritten_14
set_option maxHeartbeats 4000000 in
set_option maxRecDepth 20000 in
theorem z_Mind_isWritten_1 (l : Launch) (D : va_G) (cI cZ cC cJ cA : ClassId) (P : Nat → Nat) (s0 : State) (hAO : ∀ q, (aP P 77) q → s0.heap.size ≤ q) (M : Mm) (a1 : Int32) (a2 : Int32) (a3 : Int32) (M' : Mm) (r' : Int32) (h : q_Mind_isWritten_1 M a1 a2 a3 = some (M', r')) : Met l yX8_isWritten wsX8_isWritten ({ frames := 0, cells := 0, slots := 0, locals := 0 }) (va_Pc [.ref (P 61), .int a1, .int a2, .int a3] (gPre s0 D [(cI, .int), (cZ, .boolean), (cC, .char), (cJ, .long), (cA, .array .int)] (aP P 77) ((wX cI cZ cC cJ cA P) M))) (gQi D (aP P 77) ((wX cI cZ cC cJ cA P) M') r') 0 0 (aP P 77) := by
  refine Met.ofW (cc := cX8_isWritten) (maxL := 4) (ret := (some .boolean)) (by decide) rfl ?_
  intro p e s m args below meth c s₁ B hml hv
  obtain ⟨rfl, hP, hK, hD, hO⟩ := hv
  have hx := B.exec
  have hb := B.bytes
  have hr := B.returns
  have hlk := B.notSynchronized
  have hgt := fun w (h : w ∈ GT) => atoms_spec (ws := wsX8_isWritten) B.pre w (List.mem_cons_of_mem _ h)
  have hown : s.vm.findClass RX8 = some m.cls := findClass_of_methodNamed B.named
  have hS : va_S (aP P 77) s.heap s.heap [] := va_S.rf
  have hl := lv_entry ([.ref (P 61), .int a1, .int a2, .int a3]) (n := 4) (Nat.le_of_ble_eq_true rfl)
  rw [lg_entry_eq]
  generalize (lg_sl ([.ref (P 61), .int a1, .int a2, .int a3]) ++ List.replicate (4 - (lg_sl ([.ref (P 61), .int a1, .int a2, .int a3])).length) Slot.unset).toArray = ls at hl ⊢
  have hl : lv_has ls 4 [(0, .ref (P 61)), (1, .int a1), (2, .int a2), (3, .int a3)] := hl
  exact b_Mind_isWritten_1_0 hx hb hml hr hlk hgt hown hK hO hAO M a1 a2 a3 s.heap [] ls hl hP hD hS h
def q_Mind_brokenBy_1_184 (kf14 : Mm → Int32 → Int32 → Int32 → Int32 → Rs) (M : Mm) (v1 : Int32) (v2 : Int32) (v4 : Int32) (v5 : Int32) : Rs := kf14 M v1 v2 v4 (v5 + 1)
def q_Mind_brokenBy_1_170 (kf14 : Mm → Int32 → Int32 → Int32 → Int32 → Rs) (M : Mm) (v1 : Int32) (v2 : Int32) (v4 : Int32) (v5 : Int32) (v7 : Int32) : Rs := if v7 = 0 then (q_Mind_brokenBy_1_184 kf14 M v1 v2 v4 v5) else (lt' (v4 ||| ((1 : Int32) <<< (v5 &&& 31))) fun x1 => q_Mind_brokenBy_1_184 kf14 M v1 v2 x1 v5)
def q_Mind_brokenBy_1_168 (kf14 : Mm → Int32 → Int32 → Int32 → Int32 → Rs) (M : Mm) (v1 : Int32) (v2 : Int32) (v4 : Int32) (v5 : Int32) (t0 : Int32) : Rs := q_Mind_brokenBy_1_170 kf14 M v1 v2 v4 v5 t0
def q_Mind_brokenBy_1_167 (kf14 : Mm → Int32 → Int32 → Int32 → Int32 → Rs) (M : Mm) (v1 : Int32) (v2 : Int32) (v4 : Int32) (v5 : Int32) : Rs := q_Mind_brokenBy_1_168 kf14 M v1 v2 v4 v5 0
def q_Mind_brokenBy_1_121 (kf14 : Mm → Int32 → Int32 → Int32 → Int32 → Rs) (M : Mm) (v1 : Int32) (v2 : Int32) (v4 : Int32) (v5 : Int32) (t0 : Int32) : Rs := q_Mind_brokenBy_1_170 kf14 M v1 v2 v4 v5 t0
def q_Mind_brokenBy_1_120 (kf14 : Mm → Int32 → Int32 → Int32 → Int32 → Rs) (M : Mm) (v1 : Int32) (v2 : Int32) (v4 : Int32) (v5 : Int32) : Rs := q_Mind_brokenBy_1_121 kf14 M v1 v2 v4 v5 0
def q_Mind_brokenBy_1_79 (kf14 : Mm → Int32 → Int32 → Int32 → Int32 → Rs) (M : Mm) (v1 : Int32) (v2 : Int32) (v4 : Int32) (v5 : Int32) (t0 : Int32) : Rs := q_Mind_brokenBy_1_170 kf14 M v1 v2 v4 v5 t0
def q_Mind_brokenBy_1_78 (kf14 : Mm → Int32 → Int32 → Int32 → Int32 → Rs) (M : Mm) (v1 : Int32) (v2 : Int32) (v4 : Int32) (v5 : Int32) : Rs := q_Mind_brokenBy_1_79 kf14 M v1 v2 v4 v5 0
def q_Mind_brokenBy_1_41 (kf14 : Mm → Int32 → Int32 → Int32 → Int32 → Rs) (M : Mm) (v1 : Int32) (v2 : Int32) (v4 : Int32) (v5 : Int32) (t0 : Int32) : Rs := ix v5 12 <| if (M.1 44 (v5 : Int32).toNatClampNeg) = 0 then (if t0 = 0 then (ix v5 12 <| cal (q_Mind_isWritten_1 M (M.1 46 (v5 : Int32).toNatClampNeg) v1 v2) fun M1 r2 => if r2 = 0 then (q_Mind_brokenBy_1_78 kf14 M1 v1 v2 v4 v5) else (q_Mind_brokenBy_1_79 kf14 M1 v1 v2 v4 v5 1)) else (q_Mind_brokenBy_1_78 kf14 M v1 v2 v4 v5)) else (ix v5 12 <| if (M.1 44 (v5 : Int32).toNatClampNeg) = 2 then (if t0 = 0 then (q_Mind_brokenBy_1_120 kf14 M v1 v2 v4 v5) else (ix v5 12 <| cal (q_Mind_isWritten_1 M (M.1 45 (v5 : Int32).toNatClampNeg) v1 v2) fun M1 r2 => if r2 = 0 then (q_Mind_brokenBy_1_120 kf14 M1 v1 v2 v4 v5) else (q_Mind_brokenBy_1_121 kf14 M1 v1 v2 v4 v5 1))) else (ix v5 12 <| cal (q_Mind_isWritten_1 M (M.1 45 (v5 : Int32).toNatClampNeg) v1 v2) fun M1 r2 => if r2 = 0 then (q_Mind_brokenBy_1_167 kf14 M1 v1 v2 v4 v5) else (ix v5 12 <| cal (q_Mind_knownValue_1 M1 (M1.1 46 (v5 : Int32).toNatClampNeg)) fun M3 r4 => ix v5 12 <| if r4 = (M3.1 47 (v5 : Int32).toNatClampNeg) then (q_Mind_brokenBy_1_167 kf14 M3 v1 v2 v4 v5) else (q_Mind_brokenBy_1_168 kf14 M3 v1 v2 v4 v5 1))))
def q_Mind_brokenBy_1_14  : Nat → Mm → Int32 → Int32 → Int32 → Int32 → Rs
  | 0, _, _, _, _, _ => none
  | n' + 1, M, v1, v2, v4, v5 => if (M.1 43 0) ≤ v5 then (some (M, v4)) else (if ((((M.1 61 2) : Int32) >>> (v5 &&& 31)) &&& 1) = 1 then (q_Mind_brokenBy_1_41 (q_Mind_brokenBy_1_14 n') M v1 v2 v4 v5 1) else (q_Mind_brokenBy_1_41 (q_Mind_brokenBy_1_14 n') M v1 v2 v4 v5 0))
def q_Mind_brokenBy_1  (M : Mm) (a1 : Int32) (a2 : Int32) : Rs := q_Mind_brokenBy_1_14 4000 M a1 a2 0 0
set_option maxHeartbeats 4000000 in
set_option maxRecDepth 20000 in
theorem b_Mind_brokenBy_1_184 {p : Program} {l : Launch} {e : Env} {s s0 : State} {m : MethodId} {args : Array Value} {below : List Frame} {meth : Method} {c : Code} {D : va_G} {cI cZ cC cJ cA : ClassId} {P : Nat → Nat} {M' : Mm} {r' : Int32} {kf14 : Mm → Int32 → Int32 → Int32 → Int32 → Rs} (hx : p.tables.exec = Jvm.exec) (hb : c.code = cX8_brokenBy) (hml : c.maxLocals = 8) (hr : meth.sig.returnType = (some .int)) (hlk : meth.locks = false) (hgt : ∀ w ∈ GT, w.before args s = true) (hown : s.vm.findClass RX8 = some m.cls) (hK : va_K D vwCl [(cI, .int), (cZ, .boolean), (cC, .char), (cJ, .long), (cA, .array .int)] s) (hO : Old s0 s) (hAO : ∀ q, (aP P 77) q → s0.heap.size ≤ q) (kk14 : ∀ (M : Mm) (v1 : Int32) (v2 : Int32) (v4 : Int32) (v5 : Int32) (H : Heap) (locs : List Loc) (ls : Array Slot), lv_has ls 8 [(0, .ref (P 61)), (1, .int v1), (2, .int v2), (3, .ref (P 43)), (4, .int v4), (5, .int v5)] → va_P D vwCl ((wX cI cZ cC cJ cA P) M) H → va_D (aP P 77) ((wX cI cZ cC cJ cA P) M) → va_S (aP P 77) s.heap H locs → kf14 M v1 v2 v4 v5 = some (M', r') → W p l e ({ frames := 1, cells := 0, slots := 0, locals := 23 }) s m args below meth c H locs 0 0 (MQ below (gQi D (aP P 77) ((wX cI cZ cC cJ cA P) M') r') args s 0 0 (aP P 77)) (F0 m 14 ls [])) : ∀ (M : Mm) (v1 : Int32) (v2 : Int32) (v4 : Int32) (v5 : Int32) (H : Heap) (locs : List Loc) (ls : Array Slot), lv_has ls 8 [(0, .ref (P 61)), (1, .int v1), (2, .int v2), (3, .ref (P 43)), (4, .int v4), (5, .int v5)] → va_P D vwCl ((wX cI cZ cC cJ cA P) M) H → va_D (aP P 77) ((wX cI cZ cC cJ cA P) M) → va_S (aP P 77) s.heap H locs → q_Mind_brokenBy_1_184 kf14 M v1 v2 v4 v5 = some (M', r') → W p l e ({ frames := 1, cells := 0, slots := 0, locals := 23 }) s m args below meth c H locs 0 0 (MQ below (gQi D (aP P 77) ((wX cI cZ cC cJ cA P) M') r') args s 0 0 (aP P 77)) (F0 m 184 ls []) := by
  intro M v1 v2 v4 v5 H locs ls hl hP hD hS h
  unfold q_Mind_brokenBy_1_184 at h
  refine lv_iinc (v := (v5 + 1)) hx hb dX8_brokenBy_184 hl (k := 5) rfl rfl (Nat.le_of_ble_eq_true rfl) (lv' := [(5, .int (v5 + 1)), (0, .ref (P 61)), (1, .int v1), (2, .int v2), (3, .ref (P 43)), (4, .int v4)]) rfl (fun ls hl => ?_)
  refine lv_goto hx hb dX8_brokenBy_187 (tgt := 14) rfl ?_
  have hl := lv_sub hl [1, 2, 3, 4, 5, 0] (l' := [(0, .ref (P 61)), (1, .int v1), (2, .int v2), (3, .ref (P 43)), (4, .int v4), (5, .int (v5 + 1))]) rfl
  exact kk14 M v1 v2 v4 (v5 + 1) H locs ls hl hP hD hS h
set_option maxHeartbeats 4000000 in
set_option maxRecDepth 20000 in
theorem b_Mind_brokenBy_1_170 {p : Program} {l : Launch} {e : Env} {s s0 : State} {m : MethodId} {args : Array Value} {below : List Frame} {meth : Method} {c : Code} {D : va_G} {cI cZ cC cJ cA : ClassId} {P : Nat → Nat} {M' : Mm} {r' : Int32} {kf14 : Mm → Int32 → Int32 → Int32 → Int32 → Rs} (hx : p.tables.exec = Jvm.exec) (hb : c.code = cX8_brokenBy) (hml : c.maxLocals = 8) (hr : meth.sig.returnType = (some .int)) (hlk : meth.locks = false) (hgt : ∀ w ∈ GT, w.before args s = true) (hown : s.vm.findClass RX8 = some m.cls) (hK : va_K D vwCl [(cI, .int), (cZ, .boolean), (cC, .char), (cJ, .long), (cA, .array .int)] s) (hO : Old s0 s) (hAO : ∀ q, (aP P 77) q → s0.heap.size ≤ q) (kk14 : ∀ (M : Mm) (v1 : Int32) (v2 : Int32) (v4 : Int32) (v5 : Int32) (H : Heap) (locs : List Loc) (ls : Array Slot), lv_has ls 8 [(0, .ref (P 61)), (1, .int v1), (2, .int v2), (3, .ref (P 43)), (4, .int v4), (5, .int v5)] → va_P D vwCl ((wX cI cZ cC cJ cA P) M) H → va_D (aP P 77) ((wX cI cZ cC cJ cA P) M) → va_S (aP P 77) s.heap H locs → kf14 M v1 v2 v4 v5 = some (M', r') → W p l e ({ frames := 1, cells := 0, slots := 0, locals := 23 }) s m args below meth c H locs 0 0 (MQ below (gQi D (aP P 77) ((wX cI cZ cC cJ cA P) M') r') args s 0 0 (aP P 77)) (F0 m 14 ls [])) : ∀ (M : Mm) (v1 : Int32) (v2 : Int32) (v4 : Int32) (v5 : Int32) (v7 : Int32) (H : Heap) (locs : List Loc) (ls : Array Slot), lv_has ls 8 [(0, .ref (P 61)), (1, .int v1), (2, .int v2), (3, .ref (P 43)), (4, .int v4), (5, .int v5), (7, .int v7)] → va_P D vwCl ((wX cI cZ cC cJ cA P) M) H → va_D (aP P 77) ((wX cI cZ cC cJ cA P) M) → va_S (aP P 77) s.heap H locs → q_Mind_brokenBy_1_170 kf14 M v1 v2 v4 v5 v7 = some (M', r') → W p l e ({ frames := 1, cells := 0, slots := 0, locals := 23 }) s m args below meth c H locs 0 0 (MQ below (gQi D (aP P 77) ((wX cI cZ cC cJ cA P) M') r') args s 0 0 (aP P 77)) (F0 m 170 ls []) := by
  intro M v1 v2 v4 v5 v7 H locs ls hl hP hD hS h
  unfold q_Mind_brokenBy_1_170 at h
  refine lv_iload hx hb dX8_brokenBy_170 (lv_at hl 6 rfl) ?_
  refine lv_if_eq hx hb dX8_brokenBy_172 (tgt := 184) rfl (fun hc => ?_) (fun hc => ?_)
  · have h := br_T hc h
    have hl := lv_sub hl [0, 1, 2, 3, 4, 5] (l' := [(0, .ref (P 61)), (1, .int v1), (2, .int v2), (3, .ref (P 43)), (4, .int v4), (5, .int v5)]) rfl
    exact b_Mind_brokenBy_1_184 hx hb hml hr hlk hgt hown hK hO hAO kk14 M v1 v2 v4 v5 H _ ls hl hP hD hS h
  · have h := br_F hc h
    refine lv_iload hx hb dX8_brokenBy_175 (lv_at hl 4 rfl) ?_
    refine lv_iconst (v := 1) hx hb dX8_brokenBy_177 (by decide) ?_
    refine lv_iload hx hb dX8_brokenBy_178 (lv_at hl 5 rfl) ?_
    refine lv_ishl hx hb dX8_brokenBy_180 ?_
    refine lv_ior hx hb dX8_brokenBy_181 ?_
    refine lv_topi (fun x1 ex1 => ?_)
    have h := lt_o ex1 h
    refine lv_istore hx hb dX8_brokenBy_182 hl (Nat.le_of_ble_eq_true rfl) (lv' := [(4, .int x1), (0, .ref (P 61)), (1, .int v1), (2, .int v2), (3, .ref (P 43)), (5, .int v5), (7, .int v7)]) rfl (fun ls hl => ?_)
    have hl := lv_sub hl [1, 2, 3, 4, 0, 5] (l' := [(0, .ref (P 61)), (1, .int v1), (2, .int v2), (3, .ref (P 43)), (4, .int x1), (5, .int v5)]) rfl
    exact b_Mind_brokenBy_1_184 hx hb hml hr hlk hgt hown hK hO hAO kk14 M v1 v2 x1 v5 H _ ls hl hP hD hS h
set_option maxHeartbeats 4000000 in
set_option maxRecDepth 20000 in
theorem b_Mind_brokenBy_1_168 {p : Program} {l : Launch} {e : Env} {s s0 : State} {m : MethodId} {args : Array Value} {below : List Frame} {meth : Method} {c : Code} {D : va_G} {cI cZ cC cJ cA : ClassId} {P : Nat → Nat} {M' : Mm} {r' : Int32} {kf14 : Mm → Int32 → Int32 → Int32 → Int32 → Rs} (hx : p.tables.exec = Jvm.exec) (hb : c.code = cX8_brokenBy) (hml : c.maxLocals = 8) (hr : meth.sig.returnType = (some .int)) (hlk : meth.locks = false) (hgt : ∀ w ∈ GT, w.before args s = true) (hown : s.vm.findClass RX8 = some m.cls) (hK : va_K D vwCl [(cI, .int), (cZ, .boolean), (cC, .char), (cJ, .long), (cA, .array .int)] s) (hO : Old s0 s) (hAO : ∀ q, (aP P 77) q → s0.heap.size ≤ q) (kk14 : ∀ (M : Mm) (v1 : Int32) (v2 : Int32) (v4 : Int32) (v5 : Int32) (H : Heap) (locs : List Loc) (ls : Array Slot), lv_has ls 8 [(0, .ref (P 61)), (1, .int v1), (2, .int v2), (3, .ref (P 43)), (4, .int v4), (5, .int v5)] → va_P D vwCl ((wX cI cZ cC cJ cA P) M) H → va_D (aP P 77) ((wX cI cZ cC cJ cA P) M) → va_S (aP P 77) s.heap H locs → kf14 M v1 v2 v4 v5 = some (M', r') → W p l e ({ frames := 1, cells := 0, slots := 0, locals := 23 }) s m args below meth c H locs 0 0 (MQ below (gQi D (aP P 77) ((wX cI cZ cC cJ cA P) M') r') args s 0 0 (aP P 77)) (F0 m 14 ls [])) : ∀ (M : Mm) (v1 : Int32) (v2 : Int32) (v4 : Int32) (v5 : Int32) (t0 : Int32) (H : Heap) (locs : List Loc) (ls : Array Slot), lv_has ls 8 [(0, .ref (P 61)), (1, .int v1), (2, .int v2), (3, .ref (P 43)), (4, .int v4), (5, .int v5)] → va_P D vwCl ((wX cI cZ cC cJ cA P) M) H → va_D (aP P 77) ((wX cI cZ cC cJ cA P) M) → va_S (aP P 77) s.heap H locs → q_Mind_brokenBy_1_168 kf14 M v1 v2 v4 v5 t0 = some (M', r') → W p l e ({ frames := 1, cells := 0, slots := 0, locals := 23 }) s m args below meth c H locs 0 0 (MQ below (gQi D (aP P 77) ((wX cI cZ cC cJ cA P) M') r') args s 0 0 (aP P 77)) (F0 m 168 ls [.int t0]) := by
  intro M v1 v2 v4 v5 t0 H locs ls hl hP hD hS h
  unfold q_Mind_brokenBy_1_168 at h
  refine lv_istore hx hb dX8_brokenBy_168 hl (Nat.le_of_ble_eq_true rfl) (lv' := [(7, .int t0), (0, .ref (P 61)), (1, .int v1), (2, .int v2), (3, .ref (P 43)), (4, .int v4), (5, .int v5)]) rfl (fun ls hl => ?_)
  have hl := lv_sub hl [1, 2, 3, 4, 5, 6, 0] (l' := [(0, .ref (P 61)), (1, .int v1), (2, .int v2), (3, .ref (P 43)), (4, .int v4), (5, .int v5), (7, .int t0)]) rfl
  exact b_Mind_brokenBy_1_170 hx hb hml hr hlk hgt hown hK hO hAO kk14 M v1 v2 v4 v5 t0 H _ ls hl hP hD hS h
set_option maxHeartbeats 4000000 in
set_option maxRecDepth 20000 in
theorem b_Mind_brokenBy_1_167 {p : Program} {l : Launch} {e : Env} {s s0 : State} {m : MethodId} {args : Array Value} {below : List Frame} {meth : Method} {c : Code} {D : va_G} {cI cZ cC cJ cA : ClassId} {P : Nat → Nat} {M' : Mm} {r' : Int32} {kf14 : Mm → Int32 → Int32 → Int32 → Int32 → Rs} (hx : p.tables.exec = Jvm.exec) (hb : c.code = cX8_brokenBy) (hml : c.maxLocals = 8) (hr : meth.sig.returnType = (some .int)) (hlk : meth.locks = false) (hgt : ∀ w ∈ GT, w.before args s = true) (hown : s.vm.findClass RX8 = some m.cls) (hK : va_K D vwCl [(cI, .int), (cZ, .boolean), (cC, .char), (cJ, .long), (cA, .array .int)] s) (hO : Old s0 s) (hAO : ∀ q, (aP P 77) q → s0.heap.size ≤ q) (kk14 : ∀ (M : Mm) (v1 : Int32) (v2 : Int32) (v4 : Int32) (v5 : Int32) (H : Heap) (locs : List Loc) (ls : Array Slot), lv_has ls 8 [(0, .ref (P 61)), (1, .int v1), (2, .int v2), (3, .ref (P 43)), (4, .int v4), (5, .int v5)] → va_P D vwCl ((wX cI cZ cC cJ cA P) M) H → va_D (aP P 77) ((wX cI cZ cC cJ cA P) M) → va_S (aP P 77) s.heap H locs → kf14 M v1 v2 v4 v5 = some (M', r') → W p l e ({ frames := 1, cells := 0, slots := 0, locals := 23 }) s m args below meth c H locs 0 0 (MQ below (gQi D (aP P 77) ((wX cI cZ cC cJ cA P) M') r') args s 0 0 (aP P 77)) (F0 m 14 ls [])) : ∀ (M : Mm) (v1 : Int32) (v2 : Int32) (v4 : Int32) (v5 : Int32) (H : Heap) (locs : List Loc) (ls : Array Slot), lv_has ls 8 [(0, .ref (P 61)), (1, .int v1), (2, .int v2), (3, .ref (P 43)), (4, .int v4), (5, .int v5)] → va_P D vwCl ((wX cI cZ cC cJ cA P) M) H → va_D (aP P 77) ((wX cI cZ cC cJ cA P) M) → va_S (aP P 77) s.heap H locs → q_Mind_brokenBy_1_167 kf14 M v1 v2 v4 v5 = some (M', r') → W p l e ({ frames := 1, cells := 0, slots := 0, locals := 23 }) s m args below meth c H locs 0 0 (MQ below (gQi D (aP P 77) ((wX cI cZ cC cJ cA P) M') r') args s 0 0 (aP P 77)) (F0 m 167 ls []) := by
  intro M v1 v2 v4 v5 H locs ls hl hP hD hS h
  unfold q_Mind_brokenBy_1_167 at h
  refine lv_iconst (v := 0) hx hb dX8_brokenBy_167 (by decide) ?_
  have hl := lv_sub hl [0, 1, 2, 3, 4, 5] (l' := [(0, .ref (P 61)), (1, .int v1), (2, .int v2), (3, .ref (P 43)), (4, .int v4), (5, .int v5)]) rfl
  exact b_Mind_brokenBy_1_168 hx hb hml hr hlk hgt hown hK hO hAO kk14 M v1 v2 v4 v5 0 H _ ls hl hP hD hS h
set_option maxHeartbeats 4000000 in
set_option maxRecDepth 20000 in
theorem b_Mind_brokenBy_1_121 {p : Program} {l : Launch} {e : Env} {s s0 : State} {m : MethodId} {args : Array Value} {below : List Frame} {meth : Method} {c : Code} {D : va_G} {cI cZ cC cJ cA : ClassId} {P : Nat → Nat} {M' : Mm} {r' : Int32} {kf14 : Mm → Int32 → Int32 → Int32 → Int32 → Rs} (hx : p.tables.exec = Jvm.exec) (hb : c.code = cX8_brokenBy) (hml : c.maxLocals = 8) (hr : meth.sig.returnType = (some .int)) (hlk : meth.locks = false) (hgt : ∀ w ∈ GT, w.before args s = true) (hown : s.vm.findClass RX8 = some m.cls) (hK : va_K D vwCl [(cI, .int), (cZ, .boolean), (cC, .char), (cJ, .long), (cA, .array .int)] s) (hO : Old s0 s) (hAO : ∀ q, (aP P 77) q → s0.heap.size ≤ q) (kk14 : ∀ (M : Mm) (v1 : Int32) (v2 : Int32) (v4 : Int32) (v5 : Int32) (H : Heap) (locs : List Loc) (ls : Array Slot), lv_has ls 8 [(0, .ref (P 61)), (1, .int v1), (2, .int v2), (3, .ref (P 43)), (4, .int v4), (5, .int v5)] → va_P D vwCl ((wX cI cZ cC cJ cA P) M) H → va_D (aP P 77) ((wX cI cZ cC cJ cA P) M) → va_S (aP P 77) s.heap H locs → kf14 M v1 v2 v4 v5 = some (M', r') → W p l e ({ frames := 1, cells := 0, slots := 0, locals := 23 }) s m args below meth c H locs 0 0 (MQ below (gQi D (aP P 77) ((wX cI cZ cC cJ cA P) M') r') args s 0 0 (aP P 77)) (F0 m 14 ls [])) : ∀ (M : Mm) (v1 : Int32) (v2 : Int32) (v4 : Int32) (v5 : Int32) (t0 : Int32) (H : Heap) (locs : List Loc) (ls : Array Slot), lv_has ls 8 [(0, .ref (P 61)), (1, .int v1), (2, .int v2), (3, .ref (P 43)), (4, .int v4), (5, .int v5)] → va_P D vwCl ((wX cI cZ cC cJ cA P) M) H → va_D (aP P 77) ((wX cI cZ cC cJ cA P) M) → va_S (aP P 77) s.heap H locs → q_Mind_brokenBy_1_121 kf14 M v1 v2 v4 v5 t0 = some (M', r') → W p l e ({ frames := 1, cells := 0, slots := 0, locals := 23 }) s m args below meth c H locs 0 0 (MQ below (gQi D (aP P 77) ((wX cI cZ cC cJ cA P) M') r') args s 0 0 (aP P 77)) (F0 m 121 ls [.int t0]) := by
  intro M v1 v2 v4 v5 t0 H locs ls hl hP hD hS h
  unfold q_Mind_brokenBy_1_121 at h
  refine lv_istore hx hb dX8_brokenBy_121 hl (Nat.le_of_ble_eq_true rfl) (lv' := [(7, .int t0), (0, .ref (P 61)), (1, .int v1), (2, .int v2), (3, .ref (P 43)), (4, .int v4), (5, .int v5)]) rfl (fun ls hl => ?_)
  refine lv_goto hx hb dX8_brokenBy_123 (tgt := 170) rfl ?_
  have hl := lv_sub hl [1, 2, 3, 4, 5, 6, 0] (l' := [(0, .ref (P 61)), (1, .int v1), (2, .int v2), (3, .ref (P 43)), (4, .int v4), (5, .int v5), (7, .int t0)]) rfl
  exact b_Mind_brokenBy_1_170 hx hb hml hr hlk hgt hown hK hO hAO kk14 M v1 v2 v4 v5 t0 H _ ls hl hP hD hS h
set_option maxHeartbeats 4000000 in
set_option maxRecDepth 20000 in
theorem b_Mind_brokenBy_1_120 {p : Program} {l : Launch} {e : Env} {s s0 : State} {m : MethodId} {args : Array Value} {below : List Frame} {meth : Method} {c : Code} {D : va_G} {cI cZ cC cJ cA : ClassId} {P : Nat → Nat} {M' : Mm} {r' : Int32} {kf14 : Mm → Int32 → Int32 → Int32 → Int32 → Rs} (hx : p.tables.exec = Jvm.exec) (hb : c.code = cX8_brokenBy) (hml : c.maxLocals = 8) (hr : meth.sig.returnType = (some .int)) (hlk : meth.locks = false) (hgt : ∀ w ∈ GT, w.before args s = true) (hown : s.vm.findClass RX8 = some m.cls) (hK : va_K D vwCl [(cI, .int), (cZ, .boolean), (cC, .char), (cJ, .long), (cA, .array .int)] s) (hO : Old s0 s) (hAO : ∀ q, (aP P 77) q → s0.heap.size ≤ q) (kk14 : ∀ (M : Mm) (v1 : Int32) (v2 : Int32) (v4 : Int32) (v5 : Int32) (H : Heap) (locs : List Loc) (ls : Array Slot), lv_has ls 8 [(0, .ref (P 61)), (1, .int v1), (2, .int v2), (3, .ref (P 43)), (4, .int v4), (5, .int v5)] → va_P D vwCl ((wX cI cZ cC cJ cA P) M) H → va_D (aP P 77) ((wX cI cZ cC cJ cA P) M) → va_S (aP P 77) s.heap H locs → kf14 M v1 v2 v4 v5 = some (M', r') → W p l e ({ frames := 1, cells := 0, slots := 0, locals := 23 }) s m args below meth c H locs 0 0 (MQ below (gQi D (aP P 77) ((wX cI cZ cC cJ cA P) M') r') args s 0 0 (aP P 77)) (F0 m 14 ls [])) : ∀ (M : Mm) (v1 : Int32) (v2 : Int32) (v4 : Int32) (v5 : Int32) (H : Heap) (locs : List Loc) (ls : Array Slot), lv_has ls 8 [(0, .ref (P 61)), (1, .int v1), (2, .int v2), (3, .ref (P 43)), (4, .int v4), (5, .int v5)] → va_P D vwCl ((wX cI cZ cC cJ cA P) M) H → va_D (aP P 77) ((wX cI cZ cC cJ cA P) M) → va_S (aP P 77) s.heap H locs → q_Mind_brokenBy_1_120 kf14 M v1 v2 v4 v5 = some (M', r') → W p l e ({ frames := 1, cells := 0, slots := 0, locals := 23 }) s m args below meth c H locs 0 0 (MQ below (gQi D (aP P 77) ((wX cI cZ cC cJ cA P) M') r') args s 0 0 (aP P 77)) (F0 m 120 ls []) := by
  intro M v1 v2 v4 v5 H locs ls hl hP hD hS h
  unfold q_Mind_brokenBy_1_120 at h
  refine lv_iconst (v := 0) hx hb dX8_brokenBy_120 (by decide) ?_
  have hl := lv_sub hl [0, 1, 2, 3, 4, 5] (l' := [(0, .ref (P 61)), (1, .int v1), (2, .int v2), (3, .ref (P 43)), (4, .int v4), (5, .int v5)]) rfl
  exact b_Mind_brokenBy_1_121 hx hb hml hr hlk hgt hown hK hO hAO kk14 M v1 v2 v4 v5 0 H _ ls hl hP hD hS h
set_option maxHeartbeats 4000000 in
set_option maxRecDepth 20000 in
theorem b_Mind_brokenBy_1_79 {p : Program} {l : Launch} {e : Env} {s s0 : State} {m : MethodId} {args : Array Value} {below : List Frame} {meth : Method} {c : Code} {D : va_G} {cI cZ cC cJ cA : ClassId} {P : Nat → Nat} {M' : Mm} {r' : Int32} {kf14 : Mm → Int32 → Int32 → Int32 → Int32 → Rs} (hx : p.tables.exec = Jvm.exec) (hb : c.code = cX8_brokenBy) (hml : c.maxLocals = 8) (hr : meth.sig.returnType = (some .int)) (hlk : meth.locks = false) (hgt : ∀ w ∈ GT, w.before args s = true) (hown : s.vm.findClass RX8 = some m.cls) (hK : va_K D vwCl [(cI, .int), (cZ, .boolean), (cC, .char), (cJ, .long), (cA, .array .int)] s) (hO : Old s0 s) (hAO : ∀ q, (aP P 77) q → s0.heap.size ≤ q) (kk14 : ∀ (M : Mm) (v1 : Int32) (v2 : Int32) (v4 : Int32) (v5 : Int32) (H : Heap) (locs : List Loc) (ls : Array Slot), lv_has ls 8 [(0, .ref (P 61)), (1, .int v1), (2, .int v2), (3, .ref (P 43)), (4, .int v4), (5, .int v5)] → va_P D vwCl ((wX cI cZ cC cJ cA P) M) H → va_D (aP P 77) ((wX cI cZ cC cJ cA P) M) → va_S (aP P 77) s.heap H locs → kf14 M v1 v2 v4 v5 = some (M', r') → W p l e ({ frames := 1, cells := 0, slots := 0, locals := 23 }) s m args below meth c H locs 0 0 (MQ below (gQi D (aP P 77) ((wX cI cZ cC cJ cA P) M') r') args s 0 0 (aP P 77)) (F0 m 14 ls [])) : ∀ (M : Mm) (v1 : Int32) (v2 : Int32) (v4 : Int32) (v5 : Int32) (t0 : Int32) (H : Heap) (locs : List Loc) (ls : Array Slot), lv_has ls 8 [(0, .ref (P 61)), (1, .int v1), (2, .int v2), (3, .ref (P 43)), (4, .int v4), (5, .int v5)] → va_P D vwCl ((wX cI cZ cC cJ cA P) M) H → va_D (aP P 77) ((wX cI cZ cC cJ cA P) M) → va_S (aP P 77) s.heap H locs → q_Mind_brokenBy_1_79 kf14 M v1 v2 v4 v5 t0 = some (M', r') → W p l e ({ frames := 1, cells := 0, slots := 0, locals := 23 }) s m args below meth c H locs 0 0 (MQ below (gQi D (aP P 77) ((wX cI cZ cC cJ cA P) M') r') args s 0 0 (aP P 77)) (F0 m 79 ls [.int t0]) := by
  intro M v1 v2 v4 v5 t0 H locs ls hl hP hD hS h
  unfold q_Mind_brokenBy_1_79 at h
  refine lv_istore hx hb dX8_brokenBy_79 hl (Nat.le_of_ble_eq_true rfl) (lv' := [(7, .int t0), (0, .ref (P 61)), (1, .int v1), (2, .int v2), (3, .ref (P 43)), (4, .int v4), (5, .int v5)]) rfl (fun ls hl => ?_)
  refine lv_goto hx hb dX8_brokenBy_81 (tgt := 170) rfl ?_
  have hl := lv_sub hl [1, 2, 3, 4, 5, 6, 0] (l' := [(0, .ref (P 61)), (1, .int v1), (2, .int v2), (3, .ref (P 43)), (4, .int v4), (5, .int v5), (7, .int t0)]) rfl
  exact b_Mind_brokenBy_1_170 hx hb hml hr hlk hgt hown hK hO hAO kk14 M v1 v2 v4 v5 t0 H _ ls hl hP hD hS h
set_option maxHeartbeats 4000000 in
set_option maxRecDepth 20000 in
theorem b_Mind_brokenBy_1_78 {p : Program} {l : Launch} {e : Env} {s s0 : State} {m : MethodId} {args : Array Value} {below : List Frame} {meth : Method} {c : Code} {D : va_G} {cI cZ cC cJ cA : ClassId} {P : Nat → Nat} {M' : Mm} {r' : Int32} {kf14 : Mm → Int32 → Int32 → Int32 → Int32 → Rs} (hx : p.tables.exec = Jvm.exec) (hb : c.code = cX8_brokenBy) (hml : c.maxLocals = 8) (hr : meth.sig.returnType = (some .int)) (hlk : meth.locks = false) (hgt : ∀ w ∈ GT, w.before args s = true) (hown : s.vm.findClass RX8 = some m.cls) (hK : va_K D vwCl [(cI, .int), (cZ, .boolean), (cC, .char), (cJ, .long), (cA, .array .int)] s) (hO : Old s0 s) (hAO : ∀ q, (aP P 77) q → s0.heap.size ≤ q) (kk14 : ∀ (M : Mm) (v1 : Int32) (v2 : Int32) (v4 : Int32) (v5 : Int32) (H : Heap) (locs : List Loc) (ls : Array Slot), lv_has ls 8 [(0, .ref (P 61)), (1, .int v1), (2, .int v2), (3, .ref (P 43)), (4, .int v4), (5, .int v5)] → va_P D vwCl ((wX cI cZ cC cJ cA P) M) H → va_D (aP P 77) ((wX cI cZ cC cJ cA P) M) → va_S (aP P 77) s.heap H locs → kf14 M v1 v2 v4 v5 = some (M', r') → W p l e ({ frames := 1, cells := 0, slots := 0, locals := 23 }) s m args below meth c H locs 0 0 (MQ below (gQi D (aP P 77) ((wX cI cZ cC cJ cA P) M') r') args s 0 0 (aP P 77)) (F0 m 14 ls [])) : ∀ (M : Mm) (v1 : Int32) (v2 : Int32) (v4 : Int32) (v5 : Int32) (H : Heap) (locs : List Loc) (ls : Array Slot), lv_has ls 8 [(0, .ref (P 61)), (1, .int v1), (2, .int v2), (3, .ref (P 43)), (4, .int v4), (5, .int v5)] → va_P D vwCl ((wX cI cZ cC cJ cA P) M) H → va_D (aP P 77) ((wX cI cZ cC cJ cA P) M) → va_S (aP P 77) s.heap H locs → q_Mind_brokenBy_1_78 kf14 M v1 v2 v4 v5 = some (M', r') → W p l e ({ frames := 1, cells := 0, slots := 0, locals := 23 }) s m args below meth c H locs 0 0 (MQ below (gQi D (aP P 77) ((wX cI cZ cC cJ cA P) M') r') args s 0 0 (aP P 77)) (F0 m 78 ls []) := by
  intro M v1 v2 v4 v5 H locs ls hl hP hD hS h
  unfold q_Mind_brokenBy_1_78 at h
  refine lv_iconst (v := 0) hx hb dX8_brokenBy_78 (by decide) ?_
  have hl := lv_sub hl [0, 1, 2, 3, 4, 5] (l' := [(0, .ref (P 61)), (1, .int v1), (2, .int v2), (3, .ref (P 43)), (4, .int v4), (5, .int v5)]) rfl
  exact b_Mind_brokenBy_1_79 hx hb hml hr hlk hgt hown hK hO hAO kk14 M v1 v2 v4 v5 0 H _ ls hl hP hD hS h
set_option maxHeartbeats 4000000 in
set_option maxRecDepth 20000 in
theorem b_Mind_brokenBy_1_41 {p : Program} {l : Launch} {e : Env} {s s0 : State} {m : MethodId} {args : Array Value} {below : List Frame} {meth : Method} {c : Code} {D : va_G} {cI cZ cC cJ cA : ClassId} {P : Nat → Nat} {M' : Mm} {r' : Int32} {kf14 : Mm → Int32 → Int32 → Int32 → Int32 → Rs} (hx : p.tables.exec = Jvm.exec) (hb : c.code = cX8_brokenBy) (hml : c.maxLocals = 8) (hr : meth.sig.returnType = (some .int)) (hlk : meth.locks = false) (hgt : ∀ w ∈ GT, w.before args s = true) (hown : s.vm.findClass RX8 = some m.cls) (hK : va_K D vwCl [(cI, .int), (cZ, .boolean), (cC, .char), (cJ, .long), (cA, .array .int)] s) (hO : Old s0 s) (hAO : ∀ q, (aP P 77) q → s0.heap.size ≤ q) (kk14 : ∀ (M : Mm) (v1 : Int32) (v2 : Int32) (v4 : Int32) (v5 : Int32) (H : Heap) (locs : List Loc) (ls : Array Slot), lv_has ls 8 [(0, .ref (P 61)), (1, .int v1), (2, .int v2), (3, .ref (P 43)), (4, .int v4), (5, .int v5)] → va_P D vwCl ((wX cI cZ cC cJ cA P) M) H → va_D (aP P 77) ((wX cI cZ cC cJ cA P) M) → va_S (aP P 77) s.heap H locs → kf14 M v1 v2 v4 v5 = some (M', r') → W p l e ({ frames := 1, cells := 0, slots := 0, locals := 23 }) s m args below meth c H locs 0 0 (MQ below (gQi D (aP P 77) ((wX cI cZ cC cJ cA P) M') r') args s 0 0 (aP P 77)) (F0 m 14 ls [])) : ∀ (M : Mm) (v1 : Int32) (v2 : Int32) (v4 : Int32) (v5 : Int32) (t0 : Int32) (H : Heap) (locs : List Loc) (ls : Array Slot), lv_has ls 8 [(0, .ref (P 61)), (1, .int v1), (2, .int v2), (3, .ref (P 43)), (4, .int v4), (5, .int v5)] → va_P D vwCl ((wX cI cZ cC cJ cA P) M) H → va_D (aP P 77) ((wX cI cZ cC cJ cA P) M) → va_S (aP P 77) s.heap H locs → q_Mind_brokenBy_1_41 kf14 M v1 v2 v4 v5 t0 = some (M', r') → W p l e ({ frames := 1, cells := 0, slots := 0, locals := 23 }) s m args below meth c H locs 0 0 (MQ below (gQi D (aP P 77) ((wX cI cZ cC cJ cA P) M') r') args s 0 0 (aP P 77)) (F0 m 41 ls [.int t0]) := by
  intro M v1 v2 v4 v5 t0 H locs ls hl hP hD hS h
  unfold q_Mind_brokenBy_1_41 at h
  refine lv_istore hx hb dX8_brokenBy_41 hl (Nat.le_of_ble_eq_true rfl) (lv' := [(6, .int t0), (0, .ref (P 61)), (1, .int v1), (2, .int v2), (3, .ref (P 43)), (4, .int v4), (5, .int v5)]) rfl (fun ls hl => ?_)
  refine lv_aload_n hx hb dX8_brokenBy_43 rfl (lv_at hl 4 rfl) ?_
  refine va_get (D := D) (ci := 11) (v := .ref (P 44)) (C := RX11) (T := TX11) (N := 7) hx hb hgt iwX11 hown hK hP 43 gX_43 rfl 1 (Nat.le_of_ble_eq_true rfl) (hgt _ wd_0_56) (fun _ h9 => h9) rfl dX8_brokenBy_44 ?_
  refine lv_iload hx hb dX8_brokenBy_47 (lv_at hl 6 rfl) ?_
  refine va_iald hx hb hK hP 44 0 gX_44 rfl (ix_l h) dX8_brokenBy_49 ?_
  have h := ix_r h
  refine lv_if_ne hx hb dX8_brokenBy_50 (tgt := 84) rfl (fun hc => ?_) (fun hc => ?_)
  · have h := br_F hc h
    refine lv_aload_n hx hb dX8_brokenBy_84 rfl (lv_at hl 4 rfl) ?_
    refine va_get (D := D) (ci := 11) (v := .ref (P 44)) (C := RX11) (T := TX11) (N := 7) hx hb hgt iwX11 hown hK hP 43 gX_43 rfl 1 (Nat.le_of_ble_eq_true rfl) (hgt _ wd_0_56) (fun _ h9 => h9) rfl dX8_brokenBy_85 ?_
    refine lv_iload hx hb dX8_brokenBy_88 (lv_at hl 6 rfl) ?_
    refine va_iald hx hb hK hP 44 0 gX_44 rfl (ix_l h) dX8_brokenBy_90 ?_
    have h := ix_r h
    refine lv_iconst (v := 2) hx hb dX8_brokenBy_91 (by decide) ?_
    refine lv_icmp_ne hx hb dX8_brokenBy_92 (tgt := 126) rfl (fun hc => ?_) (fun hc => ?_)
    · have h := br_F hc h
      refine lv_aload_n hx hb dX8_brokenBy_126 rfl (lv_at hl 1 rfl) ?_
      refine lv_aload_n hx hb dX8_brokenBy_127 rfl (lv_at hl 4 rfl) ?_
      refine va_get (D := D) (ci := 11) (v := .ref (P 45)) (C := RX11) (T := TX11) (N := 7) hx hb hgt iwX11 hown hK hP 43 gX_43 rfl 2 (Nat.le_of_ble_eq_true rfl) (hgt _ wd_0_60) (fun _ h9 => h9) rfl dX8_brokenBy_128 ?_
      refine lv_iload hx hb dX8_brokenBy_131 (lv_at hl 6 rfl) ?_
      refine va_iald hx hb hK hP 45 0 gX_45 rfl (ix_l h) dX8_brokenBy_133 ?_
      have h := ix_r h
      refine lv_iload_n hx hb dX8_brokenBy_134 rfl (lv_at hl 2 rfl) ?_
      refine lv_iload_n hx hb dX8_brokenBy_135 rfl (lv_at hl 3 rfl) ?_
      obtain ⟨M1, r2, hq, h⟩ := cal_o h
      refine cx_i (va_runV (As := [.int (M.1 45 (v5 : Int32).toNatClampNeg), .int v1, .int v2]) (rest := []) ⟨hx, hb, hml, hown, hgt⟩ (z_Mind_isWritten_1 l D cI cZ cC cJ cA P s0 hAO M (M.1 45 (v5 : Int32).toNatClampNeg) v1 v2 M1 r2 hq) (cwV 3 hgt (gV wd_2_119 wd_2_121 sl__ChipMap_Mind____ChipMap_Mind___isWritten____III_Z_____ChipMap_Mind___isWritten____III_Z__ wd_0_11 wd_2_122) rfl rfl rfl (by decide +kernel) ⟨Nat.le_of_ble_eq_true rfl, Nat.le_of_ble_eq_true rfl⟩) (prV hP hK hD hO hAO hS (va_recv hK hP (ci := 8) (q0 := 61) rfl gX_61)) rfl rfl hl.1 rfl (lv_room (Nat.le_of_ble_eq_true rfl)) dX8_brokenBy_136 ⟨Nat.le_of_ble_eq_true rfl, Nat.le_of_ble_eq_true rfl⟩) hS (fun H locs hP hD hS => ?_)
      refine lv_if_eq hx hb dX8_brokenBy_139 (tgt := 167) rfl (fun hc => ?_) (fun hc => ?_)
      · have h := br_T hc h
        have hl := lv_sub hl [1, 2, 3, 4, 5, 6] (l' := [(0, .ref (P 61)), (1, .int v1), (2, .int v2), (3, .ref (P 43)), (4, .int v4), (5, .int v5)]) rfl
        exact b_Mind_brokenBy_1_167 hx hb hml hr hlk hgt hown hK hO hAO kk14 M1 v1 v2 v4 v5 H _ ls hl hP hD hS h
      · have h := br_F hc h
        refine lv_aload_n hx hb dX8_brokenBy_142 rfl (lv_at hl 1 rfl) ?_
        refine lv_aload_n hx hb dX8_brokenBy_143 rfl (lv_at hl 4 rfl) ?_
        refine va_get (D := D) (ci := 11) (v := .ref (P 46)) (C := RX11) (T := TX11) (N := 7) hx hb hgt iwX11 hown hK hP 43 gX_43 rfl 3 (Nat.le_of_ble_eq_true rfl) (hgt _ wd_0_64) (fun _ h9 => h9) rfl dX8_brokenBy_144 ?_
        refine lv_iload hx hb dX8_brokenBy_147 (lv_at hl 6 rfl) ?_
        refine va_iald hx hb hK hP 46 0 gX_46 rfl (ix_l h) dX8_brokenBy_149 ?_
        have h := ix_r h
        obtain ⟨M3, r4, hq, h⟩ := cal_o h
        refine cx_i (va_runV (As := [.int (M1.1 46 (v5 : Int32).toNatClampNeg)]) (rest := []) ⟨hx, hb, hml, hown, hgt⟩ (z_Mind_knownValue_1 l D cI cZ cC cJ cA P s0 hAO M1 (M1.1 46 (v5 : Int32).toNatClampNeg) M3 r4 hq) (cwV 1 hgt (gV wd_2_110 wd_2_111 wd_2_112 wd_0_11 wd_2_113) rfl rfl rfl (by decide +kernel) ⟨Nat.le_of_ble_eq_true rfl, Nat.le_of_ble_eq_true rfl⟩) (prV hP hK hD hO hAO hS (va_recv hK hP (ci := 8) (q0 := 61) rfl gX_61)) rfl rfl hl.1 rfl (lv_room (Nat.le_of_ble_eq_true rfl)) dX8_brokenBy_150 ⟨Nat.le_of_ble_eq_true rfl, Nat.le_of_ble_eq_true rfl⟩) hS (fun H locs hP hD hS => ?_)
        refine lv_aload_n hx hb dX8_brokenBy_153 rfl (lv_at hl 4 rfl) ?_
        refine va_get (D := D) (ci := 11) (v := .ref (P 47)) (C := RX11) (T := TX11) (N := 7) hx hb hgt iwX11 hown hK hP 43 gX_43 rfl 4 (Nat.le_of_ble_eq_true rfl) (hgt _ wd_0_68) (fun _ h9 => h9) rfl dX8_brokenBy_154 ?_
        refine lv_iload hx hb dX8_brokenBy_157 (lv_at hl 6 rfl) ?_
        refine va_iald hx hb hK hP 47 0 gX_47 rfl (ix_l h) dX8_brokenBy_159 ?_
        have h := ix_r h
        refine lv_icmp_eq hx hb dX8_brokenBy_160 (tgt := 167) rfl (fun hc => ?_) (fun hc => ?_)
        · have h := br_T hc h
          have hl := lv_sub hl [1, 2, 3, 4, 5, 6] (l' := [(0, .ref (P 61)), (1, .int v1), (2, .int v2), (3, .ref (P 43)), (4, .int v4), (5, .int v5)]) rfl
          exact b_Mind_brokenBy_1_167 hx hb hml hr hlk hgt hown hK hO hAO kk14 M3 v1 v2 v4 v5 H _ ls hl hP hD hS h
        · have h := br_F hc h
          refine lv_iconst (v := 1) hx hb dX8_brokenBy_163 (by decide) ?_
          refine lv_goto hx hb dX8_brokenBy_164 (tgt := 168) rfl ?_
          have hl := lv_sub hl [1, 2, 3, 4, 5, 6] (l' := [(0, .ref (P 61)), (1, .int v1), (2, .int v2), (3, .ref (P 43)), (4, .int v4), (5, .int v5)]) rfl
          exact b_Mind_brokenBy_1_168 hx hb hml hr hlk hgt hown hK hO hAO kk14 M3 v1 v2 v4 v5 1 H _ ls hl hP hD hS h
    · have h := br_T hc h
      refine lv_iload hx hb dX8_brokenBy_95 (lv_at hl 0 rfl) ?_
      refine lv_if_eq hx hb dX8_brokenBy_97 (tgt := 120) rfl (fun hc => ?_) (fun hc => ?_)
      · have h := br_T hc h
        have hl := lv_sub hl [1, 2, 3, 4, 5, 6] (l' := [(0, .ref (P 61)), (1, .int v1), (2, .int v2), (3, .ref (P 43)), (4, .int v4), (5, .int v5)]) rfl
        exact b_Mind_brokenBy_1_120 hx hb hml hr hlk hgt hown hK hO hAO kk14 M v1 v2 v4 v5 H _ ls hl hP hD hS h
      · have h := br_F hc h
        refine lv_aload_n hx hb dX8_brokenBy_100 rfl (lv_at hl 1 rfl) ?_
        refine lv_aload_n hx hb dX8_brokenBy_101 rfl (lv_at hl 4 rfl) ?_
        refine va_get (D := D) (ci := 11) (v := .ref (P 45)) (C := RX11) (T := TX11) (N := 7) hx hb hgt iwX11 hown hK hP 43 gX_43 rfl 2 (Nat.le_of_ble_eq_true rfl) (hgt _ wd_0_60) (fun _ h9 => h9) rfl dX8_brokenBy_102 ?_
        refine lv_iload hx hb dX8_brokenBy_105 (lv_at hl 6 rfl) ?_
        refine va_iald hx hb hK hP 45 0 gX_45 rfl (ix_l h) dX8_brokenBy_107 ?_
        have h := ix_r h
        refine lv_iload_n hx hb dX8_brokenBy_108 rfl (lv_at hl 2 rfl) ?_
        refine lv_iload_n hx hb dX8_brokenBy_109 rfl (lv_at hl 3 rfl) ?_
        obtain ⟨M1, r2, hq, h⟩ := cal_o h
        refine cx_i (va_runV (As := [.int (M.1 45 (v5 : Int32).toNatClampNeg), .int v1, .int v2]) (rest := []) ⟨hx, hb, hml, hown, hgt⟩ (z_Mind_isWritten_1 l D cI cZ cC cJ cA P s0 hAO M (M.1 45 (v5 : Int32).toNatClampNeg) v1 v2 M1 r2 hq) (cwV 3 hgt (gV wd_2_119 wd_2_121 sl__ChipMap_Mind____ChipMap_Mind___isWritten____III_Z_____ChipMap_Mind___isWritten____III_Z__ wd_0_11 wd_2_122) rfl rfl rfl (by decide +kernel) ⟨Nat.le_of_ble_eq_true rfl, Nat.le_of_ble_eq_true rfl⟩) (prV hP hK hD hO hAO hS (va_recv hK hP (ci := 8) (q0 := 61) rfl gX_61)) rfl rfl hl.1 rfl (lv_room (Nat.le_of_ble_eq_true rfl)) dX8_brokenBy_110 ⟨Nat.le_of_ble_eq_true rfl, Nat.le_of_ble_eq_true rfl⟩) hS (fun H locs hP hD hS => ?_)
        refine lv_if_eq hx hb dX8_brokenBy_113 (tgt := 120) rfl (fun hc => ?_) (fun hc => ?_)
        · have h := br_T hc h
          have hl := lv_sub hl [1, 2, 3, 4, 5, 6] (l' := [(0, .ref (P 61)), (1, .int v1), (2, .int v2), (3, .ref (P 43)), (4, .int v4), (5, .int v5)]) rfl
          exact b_Mind_brokenBy_1_120 hx hb hml hr hlk hgt hown hK hO hAO kk14 M1 v1 v2 v4 v5 H _ ls hl hP hD hS h
        · have h := br_F hc h
          refine lv_iconst (v := 1) hx hb dX8_brokenBy_116 (by decide) ?_
          refine lv_goto hx hb dX8_brokenBy_117 (tgt := 121) rfl ?_
          have hl := lv_sub hl [1, 2, 3, 4, 5, 6] (l' := [(0, .ref (P 61)), (1, .int v1), (2, .int v2), (3, .ref (P 43)), (4, .int v4), (5, .int v5)]) rfl
          exact b_Mind_brokenBy_1_121 hx hb hml hr hlk hgt hown hK hO hAO kk14 M1 v1 v2 v4 v5 1 H _ ls hl hP hD hS h
  · have h := br_T hc h
    refine lv_iload hx hb dX8_brokenBy_53 (lv_at hl 0 rfl) ?_
    refine lv_if_ne hx hb dX8_brokenBy_55 (tgt := 78) rfl (fun hc => ?_) (fun hc => ?_)
    · have h := br_F hc h
      have hl := lv_sub hl [1, 2, 3, 4, 5, 6] (l' := [(0, .ref (P 61)), (1, .int v1), (2, .int v2), (3, .ref (P 43)), (4, .int v4), (5, .int v5)]) rfl
      exact b_Mind_brokenBy_1_78 hx hb hml hr hlk hgt hown hK hO hAO kk14 M v1 v2 v4 v5 H _ ls hl hP hD hS h
    · have h := br_T hc h
      refine lv_aload_n hx hb dX8_brokenBy_58 rfl (lv_at hl 1 rfl) ?_
      refine lv_aload_n hx hb dX8_brokenBy_59 rfl (lv_at hl 4 rfl) ?_
      refine va_get (D := D) (ci := 11) (v := .ref (P 46)) (C := RX11) (T := TX11) (N := 7) hx hb hgt iwX11 hown hK hP 43 gX_43 rfl 3 (Nat.le_of_ble_eq_true rfl) (hgt _ wd_0_64) (fun _ h9 => h9) rfl dX8_brokenBy_60 ?_
      refine lv_iload hx hb dX8_brokenBy_63 (lv_at hl 6 rfl) ?_
      refine va_iald hx hb hK hP 46 0 gX_46 rfl (ix_l h) dX8_brokenBy_65 ?_
      have h := ix_r h
      refine lv_iload_n hx hb dX8_brokenBy_66 rfl (lv_at hl 2 rfl) ?_
      refine lv_iload_n hx hb dX8_brokenBy_67 rfl (lv_at hl 3 rfl) ?_
      obtain ⟨M1, r2, hq, h⟩ := cal_o h
      refine cx_i (va_runV (As := [.int (M.1 46 (v5 : Int32).toNatClampNeg), .int v1, .int v2]) (rest := []) ⟨hx, hb, hml, hown, hgt⟩ (z_Mind_isWritten_1 l D cI cZ cC cJ cA P s0 hAO M (M.1 46 (v5 : Int32).toNatClampNeg) v1 v2 M1 r2 hq) (cwV 3 hgt (gV wd_2_119 wd_2_121 sl__ChipMap_Mind____ChipMap_Mind___isWritten____III_Z_____ChipMap_Mind___isWritten____III_Z__ wd_0_11 wd_2_122) rfl rfl rfl (by decide +kernel) ⟨Nat.le_of_ble_eq_true rfl, Nat.le_of_ble_eq_true rfl⟩) (prV hP hK hD hO hAO hS (va_recv hK hP (ci := 8) (q0 := 61) rfl gX_61)) rfl rfl hl.1 rfl (lv_room (Nat.le_of_ble_eq_true rfl)) dX8_brokenBy_68 ⟨Nat.le_of_ble_eq_true rfl, Nat.le_of_ble_eq_true rfl⟩) hS (fun H locs hP hD hS => ?_)
      refine lv_if_eq hx hb dX8_brokenBy_71 (tgt := 78) rfl (fun hc => ?_) (fun hc => ?_)
      · have h := br_T hc h
        have hl := lv_sub hl [1, 2, 3, 4, 5, 6] (l' := [(0, .ref (P 61)), (1, .int v1), (2, .int v2), (3, .ref (P 43)), (4, .int v4), (5, .int v5)]) rfl
        exact b_Mind_brokenBy_1_78 hx hb hml hr hlk hgt hown hK hO hAO kk14 M1 v1 v2 v4 v5 H _ ls hl hP hD hS h
      · have h := br_F hc h
        refine lv_iconst (v := 1) hx hb dX8_brokenBy_74 (by decide) ?_
        refine lv_goto hx hb dX8_brokenBy_75 (tgt := 79) rfl ?_
        have hl := lv_sub hl [1, 2, 3, 4, 5, 6] (l' := [(0, .ref (P 61)), (1, .int v1), (2, .int v2), (3, .ref (P 43)), (4, .int v4), (5, .int v5)]) rfl
        exact b_Mind_brokenBy_1_79 hx hb hml hr hlk hgt hown hK hO hAO kk14 M1 v1 v2 v4 v5 1 H _ ls hl hP hD hS h
set_option maxHeartbeats 4000000 in
set_option maxRecDepth 20000 in
theorem b_Mind_brokenBy_1_14 {p : Program} {l : Launch} {e : Env} {s s0 : State} {m : MethodId} {args : Array Value} {below : List Frame} {meth : Method} {c : Code} {D : va_G} {cI cZ cC cJ cA : ClassId} {P : Nat → Nat} {M' : Mm} {r' : Int32}  (hx : p.tables.exec = Jvm.exec) (hb : c.code = cX8_brokenBy) (hml : c.maxLocals = 8) (hr : meth.sig.returnType = (some .int)) (hlk : meth.locks = false) (hgt : ∀ w ∈ GT, w.before args s = true) (hown : s.vm.findClass RX8 = some m.cls) (hK : va_K D vwCl [(cI, .int), (cZ, .boolean), (cC, .char), (cJ, .long), (cA, .array .int)] s) (hO : Old s0 s) (hAO : ∀ q, (aP P 77) q → s0.heap.size ≤ q)  : ∀ (n' : Nat) (M : Mm) (v1 : Int32) (v2 : Int32) (v4 : Int32) (v5 : Int32) (H : Heap) (locs : List Loc) (ls : Array Slot), lv_has ls 8 [(0, .ref (P 61)), (1, .int v1), (2, .int v2), (3, .ref (P 43)), (4, .int v4), (5, .int v5)] → va_P D vwCl ((wX cI cZ cC cJ cA P) M) H → va_D (aP P 77) ((wX cI cZ cC cJ cA P) M) → va_S (aP P 77) s.heap H locs → q_Mind_brokenBy_1_14 n' M v1 v2 v4 v5 = some (M', r') → W p l e ({ frames := 1, cells := 0, slots := 0, locals := 23 }) s m args below meth c H locs 0 0 (MQ below (gQi D (aP P 77) ((wX cI cZ cC cJ cA P) M') r') args s 0 0 (aP P 77)) (F0 m 14 ls []) := by
  intro n'
  induction n' with
  | zero => exact fun _ _ _ _ _ _ _ _ _ _ _ _ h => (rs_n h).elim
  | succ n' ih =>
    intro M v1 v2 v4 v5 H locs ls hl hP hD hS h
    rw [q_Mind_brokenBy_1_14] at h
    refine lv_iload hx hb dX8_brokenBy_14 (lv_at hl 5 rfl) ?_
    refine lv_aload_n hx hb dX8_brokenBy_16 rfl (lv_at hl 3 rfl) ?_
    refine va_get (D := D) (ci := 11) (v := .int (M.1 43 0)) (C := RX11) (T := TX11) (N := 7) hx hb hgt iwX11 hown hK hP 43 gX_43 rfl 0 (Nat.le_of_ble_eq_true rfl) (hgt _ wd_0_51) (fun _ h9 => h9) rfl dX8_brokenBy_17 ?_
    refine lv_icmp_ge hx hb dX8_brokenBy_20 (tgt := 190) rfl (fun hc => ?_) (fun hc => ?_)
    · have h := br_T hc h
      refine lv_iload hx hb dX8_brokenBy_190 (lv_at hl 4 rfl) ?_
      exact rt_i (w := (wX cI cZ cC cJ cA P)) hx hb hr hlk hP hD hS h dX8_brokenBy_192
    · have h := br_F hc h
      refine lv_aload_n hx hb dX8_brokenBy_23 rfl (lv_at hl 0 rfl) ?_
      refine va_get (D := D) (ci := 8) (v := .int (M.1 61 2)) (C := RX8) (T := TX8) (N := 3) hx hb hgt iwX8 hown hK hP 61 gX_61 rfl 2 (Nat.le_of_ble_eq_true rfl) (hgt _ wd_1_117) (fun _ h9 => h9) rfl dX8_brokenBy_24 ?_
      refine lv_iload hx hb dX8_brokenBy_27 (lv_at hl 5 rfl) ?_
      refine lv_ishr hx hb dX8_brokenBy_29 ?_
      refine lv_iconst (v := 1) hx hb dX8_brokenBy_30 (by decide) ?_
      refine lv_iand hx hb dX8_brokenBy_31 ?_
      refine lv_iconst (v := 1) hx hb dX8_brokenBy_32 (by decide) ?_
      refine lv_icmp_ne hx hb dX8_brokenBy_33 (tgt := 40) rfl (fun hc => ?_) (fun hc => ?_)
      · have h := br_F hc h
        refine lv_iconst (v := 0) hx hb dX8_brokenBy_40 (by decide) ?_
        have hl := lv_sub hl [0, 1, 2, 3, 4, 5] (l' := [(0, .ref (P 61)), (1, .int v1), (2, .int v2), (3, .ref (P 43)), (4, .int v4), (5, .int v5)]) rfl
        exact b_Mind_brokenBy_1_41 hx hb hml hr hlk hgt hown hK hO hAO ih M v1 v2 v4 v5 0 H _ ls hl hP hD hS h
      · have h := br_T hc h
        refine lv_iconst (v := 1) hx hb dX8_brokenBy_36 (by decide) ?_
        refine lv_goto hx hb dX8_brokenBy_37 (tgt := 41) rfl ?_
        have hl := lv_sub hl [0, 1, 2, 3, 4, 5] (l' := [(0, .ref (P 61)), (1, .int v1), (2, .int v2), (3, .ref (P 43)), (4, .int v4), (5, .int v5)]) rfl
        exact b_Mind_brokenBy_1_41 hx hb hml hr hlk hgt hown hK hO hAO ih M v1 v2 v4 v5 1 H _ ls hl hP hD hS h
set_option maxHeartbeats 4000000 in
set_option maxRecDepth 20000 in
theorem b_Mind_brokenBy_1_0 {p : Program} {l : Launch} {e : Env} {s s0 : State} {m : MethodId} {args : Array Value} {below : List Frame} {meth : Method} {c : Code} {D : va_G} {cI cZ cC cJ cA : ClassId} {P : Nat → Nat} {M' : Mm} {r' : Int32}  (hx : p.tables.exec = Jvm.exec) (hb : c.code = cX8_brokenBy) (hml : c.maxLocals = 8) (hr : meth.sig.returnType = (some .int)) (hlk : meth.locks = false) (hgt : ∀ w ∈ GT, w.before args s = true) (hown : s.vm.findClass RX8 = some m.cls) (hK : va_K D vwCl [(cI, .int), (cZ, .boolean), (cC, .char), (cJ, .long), (cA, .array .int)] s) (hO : Old s0 s) (hAO : ∀ q, (aP P 77) q → s0.heap.size ≤ q)  : ∀ (M : Mm) (a1 : Int32) (a2 : Int32) (H : Heap) (locs : List Loc) (ls : Array Slot), lv_has ls 8 [(0, .ref (P 61)), (1, .int a1), (2, .int a2)] → va_P D vwCl ((wX cI cZ cC cJ cA P) M) H → va_D (aP P 77) ((wX cI cZ cC cJ cA P) M) → va_S (aP P 77) s.heap H locs → q_Mind_brokenBy_1 M a1 a2 = some (M', r') → W p l e ({ frames := 1, cells := 0, slots := 0, locals := 23 }) s m args below meth c H locs 0 0 (MQ below (gQi D (aP P 77) ((wX cI cZ cC cJ cA P) M') r') args s 0 0 (aP P 77)) (F0 m 0 ls []) := by
  intro M a1 a2 H locs ls hl hP hD hS h
  unfold q_Mind_brokenBy_1 at h
  refine lv_aload_n hx hb dX8_brokenBy_0 rfl (lv_at hl 0 rfl) ?_
  refine va_get (D := D) (ci := 8) (v := .ref (P 24)) (C := RX8) (T := TX8) (N := 3) hx hb hgt iwX8 hown hK hP 61 gX_61 rfl 0 (Nat.le_of_ble_eq_true rfl) (hgt _ wd_1_112) (fun _ h9 => h9) rfl dX8_brokenBy_1 ?_
  refine va_get (D := D) (ci := 6) (v := .ref (P 43)) (C := RX6) (T := TX6) (N := 13) hx hb hgt iwX6 hown hK hP 24 gX_24 rfl 12 (Nat.le_of_ble_eq_true rfl) (hgt _ wd_1_46) (fun _ h9 => h9) rfl dX8_brokenBy_4 ?_
  refine lv_astore_n hx hb dX8_brokenBy_7 rfl hl (Nat.le_of_ble_eq_true rfl) (lv' := [(3, .ref (P 43)), (0, .ref (P 61)), (1, .int a1), (2, .int a2)]) rfl (fun ls hl => ?_)
  refine lv_iconst (v := 0) hx hb dX8_brokenBy_8 (by decide) ?_
  refine lv_istore hx hb dX8_brokenBy_9 hl (Nat.le_of_ble_eq_true rfl) (lv' := [(4, .int 0), (3, .ref (P 43)), (0, .ref (P 61)), (1, .int a1), (2, .int a2)]) rfl (fun ls hl => ?_)
  refine lv_iconst (v := 0) hx hb dX8_brokenBy_11 (by decide) ?_
  refine lv_istore hx hb dX8_brokenBy_12 hl (Nat.le_of_ble_eq_true rfl) (lv' := [(5, .int 0), (4, .int 0), (3, .ref (P 43)), (0, .ref (P 61)), (1, .int a1), (2, .int a2)]) rfl (fun ls hl => ?_)
  have hl := lv_sub hl [3, 4, 5, 2, 1, 0] (l' := [(0, .ref (P 61)), (1, .int a1), (2, .int a2), (3, .ref (P 43)), (4, .int 0), (5, .int 0)]) rfl
  exact b_Mind_brokenBy_1_14 hx hb hml hr hlk hgt hown hK hO hAO 4000 M a1 a2 0 0 H _ ls hl hP hD hS h
set_option maxHeartbeats 4000000 in
set_option maxRecDepth 20000 in
theorem z_Mind_brokenBy_1 (l : Launch) (D : va_G) (cI cZ cC cJ cA : ClassId) (P : Nat → Nat) (s0 : State) (hAO : ∀ q, (aP P 77) q → s0.heap.size ≤ q) (M : Mm) (a1 : Int32) (a2 : Int32) (M' : Mm) (r' : Int32) (h : q_Mind_brokenBy_1 M a1 a2 = some (M', r')) : Met l yX8_brokenBy wsX8_brokenBy ({ frames := 1, cells := 0, slots := 0, locals := 23 }) (va_Pc [.ref (P 61), .int a1, .int a2] (gPre s0 D [(cI, .int), (cZ, .boolean), (cC, .char), (cJ, .long), (cA, .array .int)] (aP P 77) ((wX cI cZ cC cJ cA P) M))) (gQi D (aP P 77) ((wX cI cZ cC cJ cA P) M') r') 0 0 (aP P 77) := by
  refine Met.ofW (cc := cX8_brokenBy) (maxL := 8) (ret := (some .int)) (by decide) rfl ?_
  intro p e s m args below meth c s₁ B hml hv
  obtain ⟨rfl, hP, hK, hD, hO⟩ := hv
  have hx := B.exec
  have hb := B.bytes
  have hr := B.returns
  have hlk := B.notSynchronized
  have hgt := fun w (h : w ∈ GT) => atoms_spec (ws := wsX8_brokenBy) B.pre w (List.mem_cons_of_mem _ h)
  have hown : s.vm.findClass RX8 = some m.cls := findClass_of_methodNamed B.named
  have hS : va_S (aP P 77) s.heap s.heap [] := va_S.rf
  have hl := lv_entry ([.ref (P 61), .int a1, .int a2]) (n := 8) (Nat.le_of_ble_eq_true rfl)
  rw [lg_entry_eq]
  generalize (lg_sl ([.ref (P 61), .int a1, .int a2]) ++ List.replicate (8 - (lg_sl ([.ref (P 61), .int a1, .int a2])).length) Slot.unset).toArray = ls at hl ⊢
  have hl : lv_has ls 8 [(0, .ref (P 61)), (1, .int a1), (2, .int a2)] := hl
  exact b_Mind_brokenBy_1_0 hx hb hml hr hlk hgt hown hK hO hAO M a1 a2 s.heap [] ls hl hP hD hS h
