section
def q_ChipMapModel_put  (M : Mm) (a1 : Int32) (a2 : Int32) : Rs := lt' (stI M 0 (upd (M.1 0) 0 0)) fun M1 => cal (q_ChipMapModel_isPut M1 a1 a2) fun M2 r3 => if r3 = 0 then (some (M2, (-1))) else (if (M2.1 0 52) ≤ 0 then (cal (q_ChipMapModel_begin M2) fun M4 r5 => cal (q_ChipMapModel_doPut M4 a1 a2) fun M6 r7 => cal (q_ChipMapModel_end M6) fun M8 r9 => some (M8, r9)) else (some (M2, (-1))))
set_option maxHeartbeats 4000000 in
set_option maxRecDepth 20000 in
theorem b_ChipMapModel_put_0 {p : Program} {l : Launch} {e : Env} {s s0 : State} {m : MethodId} {args : Array Value} {below : List Frame} {meth : Method} {c : Code} {D : va_G} {cI cZ cC cJ cA : ClassId} {P : Nat → Nat} {M' : Mm} {r' : Int32}  (hx : p.tables.exec = Jvm.exec) (hb : c.code = cX1_put) (hml : c.maxLocals = 3) (hr : meth.sig.returnType = (some .int)) (hlk : meth.locks = false) (hgt : ∀ w ∈ GT, w.before args s = true) (hown : s.vm.findClass RX1 = some m.cls) (hK : va_K D vwCl [(cI, .int), (cZ, .boolean), (cC, .char), (cJ, .long), (cA, .array .int)] s) (hO : Old s0 s) (hAO : ∀ q, (aP P 51) q → s0.heap.size ≤ q)  : ∀ (M : Mm) (a1 : Int32) (a2 : Int32) (H : Heap) (locs : List Loc) (ls : Array Slot), lv_has ls 3 [(0, .ref (P 0)), (1, .int a1), (2, .int a2)] → va_P D vwCl ((wY cI cZ cC cJ cA P) M) H → va_D (aP P 51) ((wY cI cZ cC cJ cA P) M) → va_S (aP P 51) s.heap H locs → q_ChipMapModel_put M a1 a2 = some (M', r') → W p l e ({ frames := 7, cells := 0, slots := 0, locals := 161 }) s m args below meth c H locs 0 0 (MQ below (gQi D (aP P 51) ((wY cI cZ cC cJ cA P) M') r') args s 0 0 (aP P 51)) (F0 m 0 ls []) := by
  intro M a1 a2 H locs ls hl hP hD hS h
  unfold q_ChipMapModel_put at h
  refine lv_aload_n hx hb dX1_put_0 rfl (lv_at hl 0 rfl) ?_
  refine lv_iconst (v := 0) hx hb dX1_put_1 (by decide) ?_
  refine pm_put (w := (wY cI cZ cC cJ cA P)) (D := D) (ci := 1) (x := 0) (ty := .int) (C := RX1) (T := TX1) (N := 76) hx hb hgt iwX1 tyX1 tyX1_ok nmX1 hown hK hP hD hS 0 gY_0 rfl 0 (Nat.le_of_ble_eq_true rfl) (hgt _ wd_4_201) (fun _ h9 => h9) rfl (by decide +kernel) rfl rfl (Nat.le_of_ble_eq_true rfl) (sY_0_0 _) dX1_put_2 (fun M1 eM1 H locs hP hD hS => ?_)
  have h := lt_o eM1 h
  refine lv_aload_n hx hb dX1_put_5 rfl (lv_at hl 0 rfl) ?_
  refine lv_iload_n hx hb dX1_put_6 rfl (lv_at hl 1 rfl) ?_
  refine lv_iload_n hx hb dX1_put_7 rfl (lv_at hl 2 rfl) ?_
  obtain ⟨M2, r3, hq, h⟩ := cal_o h
  refine cx_i (va_runV (As := [.int a1, .int a2]) (rest := []) ⟨hx, hb, hml, hown, hgt⟩ (z_ChipMapModel_isPut l D cI cZ cC cJ cA P s0 hAO M1 a1 a2 M2 r3 hq) (cwV 2 hgt (gV wd_6_126 wd_6_128 sl__ChipMapModel____ChipMapModel___isPut____II_Z_____ChipMapModel___isPut____II_Z__ wd_0_15 wd_6_129) rfl rfl rfl (by decide +kernel) ⟨Nat.le_of_ble_eq_true rfl, Nat.le_of_ble_eq_true rfl⟩) (prV hP hK hD hO hAO hS (va_recv hK hP (ci := 1) (q0 := 0) rfl gY_0)) rfl rfl hl.1 rfl (lv_room (Nat.le_of_ble_eq_true rfl)) dX1_put_8 ⟨Nat.le_of_ble_eq_true rfl, Nat.le_of_ble_eq_true rfl⟩) hS (fun H locs hP hD hS => ?_)
  refine lv_if_eq hx hb dX1_put_11 (tgt := 21) rfl (fun hc => ?_) (fun hc => ?_)
  · have h := br_T hc h
    refine lv_iconst (v := (-1)) hx hb dX1_put_21 (by decide) ?_
    exact rt_i (w := (wY cI cZ cC cJ cA P)) hx hb hr hlk hP hD hS h dX1_put_22
  · have h := br_F hc h
    refine lv_aload_n hx hb dX1_put_14 rfl (lv_at hl 0 rfl) ?_
    refine va_get (D := D) (ci := 1) (v := .int (M2.1 0 52)) (C := RX1) (T := TX1) (N := 76) hx hb hgt iwX1 hown hK hP 0 gY_0 rfl 52 (Nat.le_of_ble_eq_true rfl) (hgt _ wd_5_13) (fun _ h9 => h9) rfl dX1_put_15 ?_
    refine lv_if_le hx hb dX1_put_18 (tgt := 23) rfl (fun hc => ?_) (fun hc => ?_)
    · have h := br_T hc h
      refine lv_aload_n hx hb dX1_put_23 rfl (lv_at hl 0 rfl) ?_
      obtain ⟨M4, r5, hq, h⟩ := cal_o h
      refine cx_v (va_runV (As := []) (rest := []) ⟨hx, hb, hml, hown, hgt⟩ (z_ChipMapModel_begin l D cI cZ cC cJ cA P s0 hAO M2 M4 r5 hq) (cwV 0 hgt (gV wd_6_130 wd_6_132 sl__ChipMapModel____ChipMapModel___begin_____V_____ChipMapModel___begin_____V__ wd_0_15 wd_6_133) rfl rfl rfl (by decide +kernel) ⟨Nat.le_of_ble_eq_true rfl, Nat.le_of_ble_eq_true rfl⟩) (prV hP hK hD hO hAO hS (va_recv hK hP (ci := 1) (q0 := 0) rfl gY_0)) rfl rfl hl.1 rfl (lv_room (Nat.le_of_ble_eq_true rfl)) dX1_put_24 ⟨Nat.le_of_ble_eq_true rfl, Nat.le_of_ble_eq_true rfl⟩) hS (fun H locs hP hD hS => ?_)
      refine lv_aload_n hx hb dX1_put_27 rfl (lv_at hl 0 rfl) ?_
      refine lv_iload_n hx hb dX1_put_28 rfl (lv_at hl 1 rfl) ?_
      refine lv_iload_n hx hb dX1_put_29 rfl (lv_at hl 2 rfl) ?_
      obtain ⟨M6, r7, hq, h⟩ := cal_o h
      refine cx_v (va_runV (As := [.int a1, .int a2]) (rest := []) ⟨hx, hb, hml, hown, hgt⟩ (z_ChipMapModel_doPut l D cI cZ cC cJ cA P s0 hAO M4 a1 a2 M6 r7 hq) (cwV 2 hgt (gV wd_6_138 wd_6_140 sl__ChipMapModel____ChipMapModel___doPut____II_V_____ChipMapModel___doPut____II_V__ wd_0_15 wd_6_141) rfl rfl rfl (by decide +kernel) ⟨Nat.le_of_ble_eq_true rfl, Nat.le_of_ble_eq_true rfl⟩) (prV hP hK hD hO hAO hS (va_recv hK hP (ci := 1) (q0 := 0) rfl gY_0)) rfl rfl hl.1 rfl (lv_room (Nat.le_of_ble_eq_true rfl)) dX1_put_30 ⟨Nat.le_of_ble_eq_true rfl, Nat.le_of_ble_eq_true rfl⟩) hS (fun H locs hP hD hS => ?_)
      refine lv_aload_n hx hb dX1_put_33 rfl (lv_at hl 0 rfl) ?_
      obtain ⟨M8, r9, hq, h⟩ := cal_o h
      refine cx_i (va_runV (As := []) (rest := []) ⟨hx, hb, hml, hown, hgt⟩ (z_ChipMapModel_end l D cI cZ cC cJ cA P s0 hAO M6 M8 r9 hq) (cwV 0 hgt (gV wd_6_158 wd_6_160 sl__ChipMapModel____ChipMapModel___end_____I_____ChipMapModel___end_____I__ wd_0_15 wd_6_161) rfl rfl rfl (by decide +kernel) ⟨Nat.le_of_ble_eq_true rfl, Nat.le_of_ble_eq_true rfl⟩) (prV hP hK hD hO hAO hS (va_recv hK hP (ci := 1) (q0 := 0) rfl gY_0)) rfl rfl hl.1 rfl (lv_room (Nat.le_of_ble_eq_true rfl)) dX1_put_34 ⟨Nat.le_of_ble_eq_true rfl, Nat.le_of_ble_eq_true rfl⟩) hS (fun H locs hP hD hS => ?_)
      exact rt_i (w := (wY cI cZ cC cJ cA P)) hx hb hr hlk hP hD hS h dX1_put_37
    · have h := br_F hc h
      refine lv_iconst (v := (-1)) hx hb dX1_put_21 (by decide) ?_
      exact rt_i (w := (wY cI cZ cC cJ cA P)) hx hb hr hlk hP hD hS h dX1_put_22
set_option maxHeartbeats 4000000 in
set_option maxRecDepth 20000 in
theorem z_ChipMapModel_put (l : Launch) (D : va_G) (cI cZ cC cJ cA : ClassId) (P : Nat → Nat) (s0 : State) (hAO : ∀ q, (aP P 51) q → s0.heap.size ≤ q) (M : Mm) (a1 : Int32) (a2 : Int32) (M' : Mm) (r' : Int32) (h : q_ChipMapModel_put M a1 a2 = some (M', r')) : Met l yX1_put wsX1_put ({ frames := 7, cells := 0, slots := 0, locals := 161 }) (va_Pc [.ref (P 0), .int a1, .int a2] (gPre s0 D [(cI, .int), (cZ, .boolean), (cC, .char), (cJ, .long), (cA, .array .int)] (aP P 51) ((wY cI cZ cC cJ cA P) M))) (gQi D (aP P 51) ((wY cI cZ cC cJ cA P) M') r') 0 0 (aP P 51) := by
  refine Met.ofW (cc := cX1_put) (maxL := 3) (ret := (some .int)) (by decide) rfl ?_
  intro p e s m args below meth c s₁ B hml hv
  obtain ⟨rfl, hP, hK, hD, hO⟩ := hv
  have hx := B.exec
  have hb := B.bytes
  have hr := B.returns
  have hlk := B.notSynchronized
  have hgt := fun w (h : w ∈ GT) => atoms_spec (ws := wsX1_put) B.pre w (List.mem_cons_of_mem _ h)
  have hown : s.vm.findClass RX1 = some m.cls := findClass_of_methodNamed B.named
  have hS : va_S (aP P 51) s.heap s.heap [] := va_S.rf
  have hl := lv_entry ([.ref (P 0), .int a1, .int a2]) (n := 3) (Nat.le_of_ble_eq_true rfl)
  rw [lg_entry_eq]
  generalize (lg_sl ([.ref (P 0), .int a1, .int a2]) ++ List.replicate (3 - (lg_sl ([.ref (P 0), .int a1, .int a2])).length) Slot.unset).toArray = ls at hl ⊢
  have hl : lv_has ls 3 [(0, .ref (P 0)), (1, .int a1), (2, .int a2)] := hl
  exact b_ChipMapModel_put_0 hx hb hml hr hlk hgt hown hK hO hAO M a1 a2 s.heap [] ls hl hP hD hS h
def q_ChipMapModel_fetch_51  (M : Mm) (t0 : Int32) : Rs := lt' (stI M 0 (upd (M.1 0) 0 t0)) fun M1 => if (M1.1 0 0) = 0 then (some (M1, (M1.1 0 57))) else (some (M1, 0))
def q_ChipMapModel_fetch  (M : Mm) (a1 : Int32) : Rs := cal (q_ChipMapModel_isFetch M a1) fun M1 r2 => if r2 = 0 then (cal (q_ChipMapModel_raise M1 1) fun M3 r4 => some (M3, r4)) else (if (M1.1 0 52) ≤ 0 then (cal (q_ChipMapModel_begin M1) fun M3 r4 => cal (q_ChipMapModel_doFetch M3 a1) fun M5 r6 => cal (q_ChipMapModel_end M5) fun M7 r8 => if r8 = (-2) then (q_ChipMapModel_fetch_51 M7 2) else (q_ChipMapModel_fetch_51 M7 0)) else (cal (q_ChipMapModel_raise M1 2) fun M3 r4 => some (M3, r4)))
set_option maxHeartbeats 4000000 in
set_option maxRecDepth 20000 in
theorem b_ChipMapModel_fetch_51 {p : Program} {l : Launch} {e : Env} {s s0 : State} {m : MethodId} {args : Array Value} {below : List Frame} {meth : Method} {c : Code} {D : va_G} {cI cZ cC cJ cA : ClassId} {P : Nat → Nat} {M' : Mm} {r' : Int32}  (hx : p.tables.exec = Jvm.exec) (hb : c.code = cX1_fetch) (hml : c.maxLocals = 2) (hr : meth.sig.returnType = (some .int)) (hlk : meth.locks = false) (hgt : ∀ w ∈ GT, w.before args s = true) (hown : s.vm.findClass RX1 = some m.cls) (hK : va_K D vwCl [(cI, .int), (cZ, .boolean), (cC, .char), (cJ, .long), (cA, .array .int)] s) (hO : Old s0 s) (hAO : ∀ q, (aP P 51) q → s0.heap.size ≤ q)  : ∀ (M : Mm) (t0 : Int32) (H : Heap) (locs : List Loc) (ls : Array Slot), lv_has ls 2 [(0, .ref (P 0))] → va_P D vwCl ((wY cI cZ cC cJ cA P) M) H → va_D (aP P 51) ((wY cI cZ cC cJ cA P) M) → va_S (aP P 51) s.heap H locs → q_ChipMapModel_fetch_51 M t0 = some (M', r') → W p l e ({ frames := 7, cells := 0, slots := 0, locals := 160 }) s m args below meth c H locs 0 0 (MQ below (gQi D (aP P 51) ((wY cI cZ cC cJ cA P) M') r') args s 0 0 (aP P 51)) (F0 m 51 ls [.int t0, .ref (P 0)]) := by
  intro M t0 H locs ls hl hP hD hS h
  unfold q_ChipMapModel_fetch_51 at h
  refine pm_put (w := (wY cI cZ cC cJ cA P)) (D := D) (ci := 1) (x := t0) (ty := .int) (C := RX1) (T := TX1) (N := 76) hx hb hgt iwX1 tyX1 tyX1_ok nmX1 hown hK hP hD hS 0 gY_0 rfl 0 (Nat.le_of_ble_eq_true rfl) (hgt _ wd_4_201) (fun _ h9 => h9) rfl (by decide +kernel) rfl rfl (Nat.le_of_ble_eq_true rfl) (sY_0_0 _) dX1_fetch_51 (fun M1 eM1 H locs hP hD hS => ?_)
  have h := lt_o eM1 h
  refine lv_aload_n hx hb dX1_fetch_54 rfl (lv_at hl 0 rfl) ?_
  refine va_get (D := D) (ci := 1) (v := .int (M1.1 0 0)) (C := RX1) (T := TX1) (N := 76) hx hb hgt iwX1 hown hK hP 0 gY_0 rfl 0 (Nat.le_of_ble_eq_true rfl) (hgt _ wd_4_201) (fun _ h9 => h9) rfl dX1_fetch_55 ?_
  refine lv_if_ne hx hb dX1_fetch_58 (tgt := 68) rfl (fun hc => ?_) (fun hc => ?_)
  · have h := br_F hc h
    refine lv_iconst (v := 0) hx hb dX1_fetch_68 (by decide) ?_
    exact rt_i (w := (wY cI cZ cC cJ cA P)) hx hb hr hlk hP hD hS h dX1_fetch_69
  · have h := br_T hc h
    refine lv_aload_n hx hb dX1_fetch_61 rfl (lv_at hl 0 rfl) ?_
    refine va_get (D := D) (ci := 1) (v := .int (M1.1 0 57)) (C := RX1) (T := TX1) (N := 76) hx hb hgt iwX1 hown hK hP 0 gY_0 rfl 57 (Nat.le_of_ble_eq_true rfl) (hgt _ wd_5_18) (fun _ h9 => h9) rfl dX1_fetch_62 ?_
    refine lv_goto hx hb dX1_fetch_65 (tgt := 69) rfl ?_
    exact rt_i (w := (wY cI cZ cC cJ cA P)) hx hb hr hlk hP hD hS h dX1_fetch_69
set_option maxHeartbeats 4000000 in
set_option maxRecDepth 20000 in
theorem b_ChipMapModel_fetch_0 {p : Program} {l : Launch} {e : Env} {s s0 : State} {m : MethodId} {args : Array Value} {below : List Frame} {meth : Method} {c : Code} {D : va_G} {cI cZ cC cJ cA : ClassId} {P : Nat → Nat} {M' : Mm} {r' : Int32}  (hx : p.tables.exec = Jvm.exec) (hb : c.code = cX1_fetch) (hml : c.maxLocals = 2) (hr : meth.sig.returnType = (some .int)) (hlk : meth.locks = false) (hgt : ∀ w ∈ GT, w.before args s = true) (hown : s.vm.findClass RX1 = some m.cls) (hK : va_K D vwCl [(cI, .int), (cZ, .boolean), (cC, .char), (cJ, .long), (cA, .array .int)] s) (hO : Old s0 s) (hAO : ∀ q, (aP P 51) q → s0.heap.size ≤ q)  : ∀ (M : Mm) (a1 : Int32) (H : Heap) (locs : List Loc) (ls : Array Slot), lv_has ls 2 [(0, .ref (P 0)), (1, .int a1)] → va_P D vwCl ((wY cI cZ cC cJ cA P) M) H → va_D (aP P 51) ((wY cI cZ cC cJ cA P) M) → va_S (aP P 51) s.heap H locs → q_ChipMapModel_fetch M a1 = some (M', r') → W p l e ({ frames := 7, cells := 0, slots := 0, locals := 160 }) s m args below meth c H locs 0 0 (MQ below (gQi D (aP P 51) ((wY cI cZ cC cJ cA P) M') r') args s 0 0 (aP P 51)) (F0 m 0 ls []) := by
  intro M a1 H locs ls hl hP hD hS h
  unfold q_ChipMapModel_fetch at h
  refine lv_aload_n hx hb dX1_fetch_0 rfl (lv_at hl 0 rfl) ?_
  refine lv_iload_n hx hb dX1_fetch_1 rfl (lv_at hl 1 rfl) ?_
  obtain ⟨M1, r2, hq, h⟩ := cal_o h
  refine cx_i (va_runV (As := [.int a1]) (rest := []) ⟨hx, hb, hml, hown, hgt⟩ (z_ChipMapModel_isFetch l D cI cZ cC cJ cA P s0 hAO M a1 M1 r2 hq) (cwV 1 hgt (gV wd_6_166 wd_6_168 sl__ChipMapModel____ChipMapModel___isFetch____I_Z_____ChipMapModel___isFetch____I_Z__ wd_0_15 wd_6_169) rfl rfl rfl (by decide +kernel) ⟨Nat.le_of_ble_eq_true rfl, Nat.le_of_ble_eq_true rfl⟩) (prV hP hK hD hO hAO hS (va_recv hK hP (ci := 1) (q0 := 0) rfl gY_0)) rfl rfl hl.1 rfl (lv_room (Nat.le_of_ble_eq_true rfl)) dX1_fetch_2 ⟨Nat.le_of_ble_eq_true rfl, Nat.le_of_ble_eq_true rfl⟩) hS (fun H locs hP hD hS => ?_)
  refine lv_if_ne hx hb dX1_fetch_5 (tgt := 14) rfl (fun hc => ?_) (fun hc => ?_)
  · have h := br_F hc h
    refine lv_aload_n hx hb dX1_fetch_14 rfl (lv_at hl 0 rfl) ?_
    refine va_get (D := D) (ci := 1) (v := .int (M1.1 0 52)) (C := RX1) (T := TX1) (N := 76) hx hb hgt iwX1 hown hK hP 0 gY_0 rfl 52 (Nat.le_of_ble_eq_true rfl) (hgt _ wd_5_13) (fun _ h9 => h9) rfl dX1_fetch_15 ?_
    refine lv_if_le hx hb dX1_fetch_18 (tgt := 27) rfl (fun hc => ?_) (fun hc => ?_)
    · have h := br_T hc h
      refine lv_aload_n hx hb dX1_fetch_27 rfl (lv_at hl 0 rfl) ?_
      obtain ⟨M3, r4, hq, h⟩ := cal_o h
      refine cx_v (va_runV (As := []) (rest := []) ⟨hx, hb, hml, hown, hgt⟩ (z_ChipMapModel_begin l D cI cZ cC cJ cA P s0 hAO M1 M3 r4 hq) (cwV 0 hgt (gV wd_6_130 wd_6_132 sl__ChipMapModel____ChipMapModel___begin_____V_____ChipMapModel___begin_____V__ wd_0_15 wd_6_133) rfl rfl rfl (by decide +kernel) ⟨Nat.le_of_ble_eq_true rfl, Nat.le_of_ble_eq_true rfl⟩) (prV hP hK hD hO hAO hS (va_recv hK hP (ci := 1) (q0 := 0) rfl gY_0)) rfl rfl hl.1 rfl (lv_room (Nat.le_of_ble_eq_true rfl)) dX1_fetch_28 ⟨Nat.le_of_ble_eq_true rfl, Nat.le_of_ble_eq_true rfl⟩) hS (fun H locs hP hD hS => ?_)
      refine lv_aload_n hx hb dX1_fetch_31 rfl (lv_at hl 0 rfl) ?_
      refine lv_iload_n hx hb dX1_fetch_32 rfl (lv_at hl 1 rfl) ?_
      obtain ⟨M5, r6, hq, h⟩ := cal_o h
      refine cx_v (va_runV (As := [.int a1]) (rest := []) ⟨hx, hb, hml, hown, hgt⟩ (z_ChipMapModel_doFetch l D cI cZ cC cJ cA P s0 hAO M3 a1 M5 r6 hq) (cwV 1 hgt (gV wd_6_170 wd_6_172 sl__ChipMapModel____ChipMapModel___doFetch____I_V_____ChipMapModel___doFetch____I_V__ wd_0_15 wd_6_173) rfl rfl rfl (by decide +kernel) ⟨Nat.le_of_ble_eq_true rfl, Nat.le_of_ble_eq_true rfl⟩) (prV hP hK hD hO hAO hS (va_recv hK hP (ci := 1) (q0 := 0) rfl gY_0)) rfl rfl hl.1 rfl (lv_room (Nat.le_of_ble_eq_true rfl)) dX1_fetch_33 ⟨Nat.le_of_ble_eq_true rfl, Nat.le_of_ble_eq_true rfl⟩) hS (fun H locs hP hD hS => ?_)
      refine lv_aload_n hx hb dX1_fetch_36 rfl (lv_at hl 0 rfl) ?_
      refine lv_aload_n hx hb dX1_fetch_37 rfl (lv_at hl 0 rfl) ?_
      obtain ⟨M7, r8, hq, h⟩ := cal_o h
      refine cx_i (va_runV (As := []) (rest := [.ref (P 0)]) ⟨hx, hb, hml, hown, hgt⟩ (z_ChipMapModel_end l D cI cZ cC cJ cA P s0 hAO M5 M7 r8 hq) (cwV 0 hgt (gV wd_6_158 wd_6_160 sl__ChipMapModel____ChipMapModel___end_____I_____ChipMapModel___end_____I__ wd_0_15 wd_6_161) rfl rfl rfl (by decide +kernel) ⟨Nat.le_of_ble_eq_true rfl, Nat.le_of_ble_eq_true rfl⟩) (prV hP hK hD hO hAO hS (va_recv hK hP (ci := 1) (q0 := 0) rfl gY_0)) rfl rfl hl.1 rfl (lv_room (Nat.le_of_ble_eq_true rfl)) dX1_fetch_38 ⟨Nat.le_of_ble_eq_true rfl, Nat.le_of_ble_eq_true rfl⟩) hS (fun H locs hP hD hS => ?_)
      refine lv_bipush (v := (-2)) hx hb dX1_fetch_41 (by decide) ?_
      refine lv_icmp_ne hx hb dX1_fetch_43 (tgt := 50) rfl (fun hc => ?_) (fun hc => ?_)
      · have h := br_F hc h
        refine lv_iconst (v := 0) hx hb dX1_fetch_50 (by decide) ?_
        have hl := lv_sub hl [0] (l' := [(0, .ref (P 0))]) rfl
        exact b_ChipMapModel_fetch_51 hx hb hml hr hlk hgt hown hK hO hAO M7 0 H _ ls hl hP hD hS h
      · have h := br_T hc h
        refine lv_iconst (v := 2) hx hb dX1_fetch_46 (by decide) ?_
        refine lv_goto hx hb dX1_fetch_47 (tgt := 51) rfl ?_
        have hl := lv_sub hl [0] (l' := [(0, .ref (P 0))]) rfl
        exact b_ChipMapModel_fetch_51 hx hb hml hr hlk hgt hown hK hO hAO M7 2 H _ ls hl hP hD hS h
    · have h := br_F hc h
      refine lv_aload_n hx hb dX1_fetch_21 rfl (lv_at hl 0 rfl) ?_
      refine lv_iconst (v := 2) hx hb dX1_fetch_22 (by decide) ?_
      obtain ⟨M3, r4, hq, h⟩ := cal_o h
      refine cx_i (va_runV (As := [.int 2]) (rest := []) ⟨hx, hb, hml, hown, hgt⟩ (z_ChipMapModel_raise l D cI cZ cC cJ cA P s0 hAO M1 2 M3 r4 hq) (cwV 1 hgt (gV wd_6_33 wd_6_35 sl__ChipMapModel____ChipMapModel___raise____I_I_____ChipMapModel___raise____I_I__ wd_0_15 wd_6_36) rfl rfl rfl (by decide +kernel) ⟨Nat.le_of_ble_eq_true rfl, Nat.le_of_ble_eq_true rfl⟩) (prV hP hK hD hO hAO hS (va_recv hK hP (ci := 1) (q0 := 0) rfl gY_0)) rfl rfl hl.1 rfl (lv_room (Nat.le_of_ble_eq_true rfl)) dX1_fetch_23 ⟨Nat.le_of_ble_eq_true rfl, Nat.le_of_ble_eq_true rfl⟩) hS (fun H locs hP hD hS => ?_)
      exact rt_i (w := (wY cI cZ cC cJ cA P)) hx hb hr hlk hP hD hS h dX1_fetch_26
  · have h := br_T hc h
    refine lv_aload_n hx hb dX1_fetch_8 rfl (lv_at hl 0 rfl) ?_
    refine lv_iconst (v := 1) hx hb dX1_fetch_9 (by decide) ?_
    obtain ⟨M3, r4, hq, h⟩ := cal_o h
    refine cx_i (va_runV (As := [.int 1]) (rest := []) ⟨hx, hb, hml, hown, hgt⟩ (z_ChipMapModel_raise l D cI cZ cC cJ cA P s0 hAO M1 1 M3 r4 hq) (cwV 1 hgt (gV wd_6_33 wd_6_35 sl__ChipMapModel____ChipMapModel___raise____I_I_____ChipMapModel___raise____I_I__ wd_0_15 wd_6_36) rfl rfl rfl (by decide +kernel) ⟨Nat.le_of_ble_eq_true rfl, Nat.le_of_ble_eq_true rfl⟩) (prV hP hK hD hO hAO hS (va_recv hK hP (ci := 1) (q0 := 0) rfl gY_0)) rfl rfl hl.1 rfl (lv_room (Nat.le_of_ble_eq_true rfl)) dX1_fetch_10 ⟨Nat.le_of_ble_eq_true rfl, Nat.le_of_ble_eq_true rfl⟩) hS (fun H locs hP hD hS => ?_)
    exact rt_i (w := (wY cI cZ cC cJ cA P)) hx hb hr hlk hP hD hS h dX1_fetch_13
set_option maxHeartbeats 4000000 in
set_option maxRecDepth 20000 in
theorem z_ChipMapModel_fetch (l : Launch) (D : va_G) (cI cZ cC cJ cA : ClassId) (P : Nat → Nat) (s0 : State) (hAO : ∀ q, (aP P 51) q → s0.heap.size ≤ q) (M : Mm) (a1 : Int32) (M' : Mm) (r' : Int32) (h : q_ChipMapModel_fetch M a1 = some (M', r')) : Met l yX1_fetch wsX1_fetch ({ frames := 7, cells := 0, slots := 0, locals := 160 }) (va_Pc [.ref (P 0), .int a1] (gPre s0 D [(cI, .int), (cZ, .boolean), (cC, .char), (cJ, .long), (cA, .array .int)] (aP P 51) ((wY cI cZ cC cJ cA P) M))) (gQi D (aP P 51) ((wY cI cZ cC cJ cA P) M') r') 0 0 (aP P 51) := by
  refine Met.ofW (cc := cX1_fetch) (maxL := 2) (ret := (some .int)) (by decide) rfl ?_
  intro p e s m args below meth c s₁ B hml hv
  obtain ⟨rfl, hP, hK, hD, hO⟩ := hv
  have hx := B.exec
  have hb := B.bytes
  have hr := B.returns
  have hlk := B.notSynchronized
  have hgt := fun w (h : w ∈ GT) => atoms_spec (ws := wsX1_fetch) B.pre w (List.mem_cons_of_mem _ h)
  have hown : s.vm.findClass RX1 = some m.cls := findClass_of_methodNamed B.named
  have hS : va_S (aP P 51) s.heap s.heap [] := va_S.rf
  have hl := lv_entry ([.ref (P 0), .int a1]) (n := 2) (Nat.le_of_ble_eq_true rfl)
  rw [lg_entry_eq]
  generalize (lg_sl ([.ref (P 0), .int a1]) ++ List.replicate (2 - (lg_sl ([.ref (P 0), .int a1])).length) Slot.unset).toArray = ls at hl ⊢
  have hl : lv_has ls 2 [(0, .ref (P 0)), (1, .int a1)] := hl
  exact b_ChipMapModel_fetch_0 hx hb hml hr hlk hgt hown hK hO hAO M a1 s.heap [] ls hl hP hD hS h
def q_ChipMapModel_join  (M : Mm) (a1 : Int32) (a2 : Int32) : Rs := lt' (stI M 0 (upd (M.1 0) 0 0)) fun M1 => cal (q_ChipMapModel_isPut M1 a1 a2) fun M2 r3 => if r3 = 0 then (some (M2, (-1))) else (if (M2.1 0 52) = 8 then (some (M2, (-1))) else (ix (M2.1 0 52) 8 <| lt' (stI M2 40 (upd (M2.1 40) ((M2.1 0 52) : Int32).toNatClampNeg a1)) fun M4 => ix (M4.1 0 52) 8 <| lt' (stI M4 41 (upd (M4.1 41) ((M4.1 0 52) : Int32).toNatClampNeg a2)) fun M5 => lt' (stI M5 0 (upd (M5.1 0) 52 ((M5.1 0 52) + 1))) fun M6 => some (M6, (M6.1 0 52))))
set_option maxHeartbeats 4000000 in
set_option maxRecDepth 20000 in
theorem b_ChipMapModel_join_0 {p : Program} {l : Launch} {e : Env} {s s0 : State} {m : MethodId} {args : Array Value} {below : List Frame} {meth : Method} {c : Code} {D : va_G} {cI cZ cC cJ cA : ClassId} {P : Nat → Nat} {M' : Mm} {r' : Int32}  (hx : p.tables.exec = Jvm.exec) (hb : c.code = cX1_join) (hml : c.maxLocals = 3) (hr : meth.sig.returnType = (some .int)) (hlk : meth.locks = false) (hgt : ∀ w ∈ GT, w.before args s = true) (hown : s.vm.findClass RX1 = some m.cls) (hK : va_K D vwCl [(cI, .int), (cZ, .boolean), (cC, .char), (cJ, .long), (cA, .array .int)] s) (hO : Old s0 s) (hAO : ∀ q, (aP P 51) q → s0.heap.size ≤ q)  : ∀ (M : Mm) (a1 : Int32) (a2 : Int32) (H : Heap) (locs : List Loc) (ls : Array Slot), lv_has ls 3 [(0, .ref (P 0)), (1, .int a1), (2, .int a2)] → va_P D vwCl ((wY cI cZ cC cJ cA P) M) H → va_D (aP P 51) ((wY cI cZ cC cJ cA P) M) → va_S (aP P 51) s.heap H locs → q_ChipMapModel_join M a1 a2 = some (M', r') → W p l e ({ frames := 2, cells := 0, slots := 0, locals := 44 }) s m args below meth c H locs 0 0 (MQ below (gQi D (aP P 51) ((wY cI cZ cC cJ cA P) M') r') args s 0 0 (aP P 51)) (F0 m 0 ls []) := by
  intro M a1 a2 H locs ls hl hP hD hS h
  unfold q_ChipMapModel_join at h
  refine lv_aload_n hx hb dX1_join_0 rfl (lv_at hl 0 rfl) ?_
  refine lv_iconst (v := 0) hx hb dX1_join_1 (by decide) ?_
  refine pm_put (w := (wY cI cZ cC cJ cA P)) (D := D) (ci := 1) (x := 0) (ty := .int) (C := RX1) (T := TX1) (N := 76) hx hb hgt iwX1 tyX1 tyX1_ok nmX1 hown hK hP hD hS 0 gY_0 rfl 0 (Nat.le_of_ble_eq_true rfl) (hgt _ wd_4_201) (fun _ h9 => h9) rfl (by decide +kernel) rfl rfl (Nat.le_of_ble_eq_true rfl) (sY_0_0 _) dX1_join_2 (fun M1 eM1 H locs hP hD hS => ?_)
  have h := lt_o eM1 h
  refine lv_aload_n hx hb dX1_join_5 rfl (lv_at hl 0 rfl) ?_
  refine lv_iload_n hx hb dX1_join_6 rfl (lv_at hl 1 rfl) ?_
  refine lv_iload_n hx hb dX1_join_7 rfl (lv_at hl 2 rfl) ?_
  obtain ⟨M2, r3, hq, h⟩ := cal_o h
  refine cx_i (va_runV (As := [.int a1, .int a2]) (rest := []) ⟨hx, hb, hml, hown, hgt⟩ (z_ChipMapModel_isPut l D cI cZ cC cJ cA P s0 hAO M1 a1 a2 M2 r3 hq) (cwV 2 hgt (gV wd_6_126 wd_6_128 sl__ChipMapModel____ChipMapModel___isPut____II_Z_____ChipMapModel___isPut____II_Z__ wd_0_15 wd_6_129) rfl rfl rfl (by decide +kernel) ⟨Nat.le_of_ble_eq_true rfl, Nat.le_of_ble_eq_true rfl⟩) (prV hP hK hD hO hAO hS (va_recv hK hP (ci := 1) (q0 := 0) rfl gY_0)) rfl rfl hl.1 rfl (lv_room (Nat.le_of_ble_eq_true rfl)) dX1_join_8 ⟨Nat.le_of_ble_eq_true rfl, Nat.le_of_ble_eq_true rfl⟩) hS (fun H locs hP hD hS => ?_)
  refine lv_if_eq hx hb dX1_join_11 (tgt := 23) rfl (fun hc => ?_) (fun hc => ?_)
  · have h := br_T hc h
    refine lv_iconst (v := (-1)) hx hb dX1_join_23 (by decide) ?_
    exact rt_i (w := (wY cI cZ cC cJ cA P)) hx hb hr hlk hP hD hS h dX1_join_24
  · have h := br_F hc h
    refine lv_aload_n hx hb dX1_join_14 rfl (lv_at hl 0 rfl) ?_
    refine va_get (D := D) (ci := 1) (v := .int (M2.1 0 52)) (C := RX1) (T := TX1) (N := 76) hx hb hgt iwX1 hown hK hP 0 gY_0 rfl 52 (Nat.le_of_ble_eq_true rfl) (hgt _ wd_5_13) (fun _ h9 => h9) rfl dX1_join_15 ?_
    refine lv_bipush (v := 8) hx hb dX1_join_18 (by decide) ?_
    refine lv_icmp_ne hx hb dX1_join_20 (tgt := 25) rfl (fun hc => ?_) (fun hc => ?_)
    · have h := br_F hc h
      refine lv_aload_n hx hb dX1_join_25 rfl (lv_at hl 0 rfl) ?_
      refine va_get (D := D) (ci := 1) (v := .ref (P 40)) (C := RX1) (T := TX1) (N := 76) hx hb hgt iwX1 hown hK hP 0 gY_0 rfl 53 (Nat.le_of_ble_eq_true rfl) (hgt _ wd_5_14) (fun _ h9 => h9) rfl dX1_join_26 ?_
      refine lv_aload_n hx hb dX1_join_29 rfl (lv_at hl 0 rfl) ?_
      refine va_get (D := D) (ci := 1) (v := .int (M2.1 0 52)) (C := RX1) (T := TX1) (N := 76) hx hb hgt iwX1 hown hK hP 0 gY_0 rfl 52 (Nat.le_of_ble_eq_true rfl) (hgt _ wd_5_13) (fun _ h9 => h9) rfl dX1_join_30 ?_
      refine lv_iload_n hx hb dX1_join_33 rfl (lv_at hl 1 rfl) ?_
      refine pm_iast (w := (wY cI cZ cC cJ cA P)) hx hb hK hP hD hS 40 0 gY_40 rfl sY_40 (ix_l h) dX1_join_34 (fun M4 eM4 H locs hP hD hS => ?_)
      have h := ix_r h
      have h := lt_o eM4 h
      refine lv_aload_n hx hb dX1_join_35 rfl (lv_at hl 0 rfl) ?_
      refine va_get (D := D) (ci := 1) (v := .ref (P 41)) (C := RX1) (T := TX1) (N := 76) hx hb hgt iwX1 hown hK hP 0 gY_0 rfl 54 (Nat.le_of_ble_eq_true rfl) (hgt _ wd_5_15) (fun _ h9 => h9) rfl dX1_join_36 ?_
      refine lv_aload_n hx hb dX1_join_39 rfl (lv_at hl 0 rfl) ?_
      refine va_get (D := D) (ci := 1) (v := .int (M4.1 0 52)) (C := RX1) (T := TX1) (N := 76) hx hb hgt iwX1 hown hK hP 0 gY_0 rfl 52 (Nat.le_of_ble_eq_true rfl) (hgt _ wd_5_13) (fun _ h9 => h9) rfl dX1_join_40 ?_
      refine lv_iload_n hx hb dX1_join_43 rfl (lv_at hl 2 rfl) ?_
      refine pm_iast (w := (wY cI cZ cC cJ cA P)) hx hb hK hP hD hS 41 0 gY_41 rfl sY_41 (ix_l h) dX1_join_44 (fun M5 eM5 H locs hP hD hS => ?_)
      have h := ix_r h
      have h := lt_o eM5 h
      refine lv_aload_n hx hb dX1_join_45 rfl (lv_at hl 0 rfl) ?_
      refine lv_dup hx hb dX1_join_46 rfl ?_
      refine va_get (D := D) (ci := 1) (v := .int (M5.1 0 52)) (C := RX1) (T := TX1) (N := 76) hx hb hgt iwX1 hown hK hP 0 gY_0 rfl 52 (Nat.le_of_ble_eq_true rfl) (hgt _ wd_5_13) (fun _ h9 => h9) rfl dX1_join_47 ?_
      refine lv_iconst (v := 1) hx hb dX1_join_50 (by decide) ?_
      refine lv_iadd hx hb dX1_join_51 ?_
      refine pm_put (w := (wY cI cZ cC cJ cA P)) (D := D) (ci := 1) (x := ((M5.1 0 52) + 1)) (ty := .int) (C := RX1) (T := TX1) (N := 76) hx hb hgt iwX1 tyX1 tyX1_ok nmX1 hown hK hP hD hS 0 gY_0 rfl 52 (Nat.le_of_ble_eq_true rfl) (hgt _ wd_5_13) (fun _ h9 => h9) rfl (by decide +kernel) rfl rfl (Nat.le_of_ble_eq_true rfl) (sY_0_52 _) dX1_join_52 (fun M6 eM6 H locs hP hD hS => ?_)
      have h := lt_o eM6 h
      refine lv_aload_n hx hb dX1_join_55 rfl (lv_at hl 0 rfl) ?_
      refine va_get (D := D) (ci := 1) (v := .int (M6.1 0 52)) (C := RX1) (T := TX1) (N := 76) hx hb hgt iwX1 hown hK hP 0 gY_0 rfl 52 (Nat.le_of_ble_eq_true rfl) (hgt _ wd_5_13) (fun _ h9 => h9) rfl dX1_join_56 ?_
      exact rt_i (w := (wY cI cZ cC cJ cA P)) hx hb hr hlk hP hD hS h dX1_join_59
    · have h := br_T hc h
      refine lv_iconst (v := (-1)) hx hb dX1_join_23 (by decide) ?_
      exact rt_i (w := (wY cI cZ cC cJ cA P)) hx hb hr hlk hP hD hS h dX1_join_24
set_option maxHeartbeats 4000000 in
set_option maxRecDepth 20000 in
theorem z_ChipMapModel_join (l : Launch) (D : va_G) (cI cZ cC cJ cA : ClassId) (P : Nat → Nat) (s0 : State) (hAO : ∀ q, (aP P 51) q → s0.heap.size ≤ q) (M : Mm) (a1 : Int32) (a2 : Int32) (M' : Mm) (r' : Int32) (h : q_ChipMapModel_join M a1 a2 = some (M', r')) : Met l yX1_join wsX1_join ({ frames := 2, cells := 0, slots := 0, locals := 44 }) (va_Pc [.ref (P 0), .int a1, .int a2] (gPre s0 D [(cI, .int), (cZ, .boolean), (cC, .char), (cJ, .long), (cA, .array .int)] (aP P 51) ((wY cI cZ cC cJ cA P) M))) (gQi D (aP P 51) ((wY cI cZ cC cJ cA P) M') r') 0 0 (aP P 51) := by
  refine Met.ofW (cc := cX1_join) (maxL := 3) (ret := (some .int)) (by decide) rfl ?_
  intro p e s m args below meth c s₁ B hml hv
  obtain ⟨rfl, hP, hK, hD, hO⟩ := hv
  have hx := B.exec
  have hb := B.bytes
  have hr := B.returns
  have hlk := B.notSynchronized
  have hgt := fun w (h : w ∈ GT) => atoms_spec (ws := wsX1_join) B.pre w (List.mem_cons_of_mem _ h)
  have hown : s.vm.findClass RX1 = some m.cls := findClass_of_methodNamed B.named
  have hS : va_S (aP P 51) s.heap s.heap [] := va_S.rf
  have hl := lv_entry ([.ref (P 0), .int a1, .int a2]) (n := 3) (Nat.le_of_ble_eq_true rfl)
  rw [lg_entry_eq]
  generalize (lg_sl ([.ref (P 0), .int a1, .int a2]) ++ List.replicate (3 - (lg_sl ([.ref (P 0), .int a1, .int a2])).length) Slot.unset).toArray = ls at hl ⊢
  have hl : lv_has ls 3 [(0, .ref (P 0)), (1, .int a1), (2, .int a2)] := hl
  exact b_ChipMapModel_join_0 hx hb hml hr hlk hgt hown hK hO hAO M a1 a2 s.heap [] ls hl hP hD hS h
def q_ChipMapModel_flushRegister_200 (kf126 : Mm → Int32 → Int32 → Int32 → Rs) (M : Mm) (v1 : Int32) (v3 : Int32) (v4 : Int32) : Rs := kf126 M v1 v3 (v4 + 1)
def q_ChipMapModel_flushRegister_196 (kf126 : Mm → Int32 → Int32 → Int32 → Rs) (M : Mm) (v1 : Int32) (v4 : Int32) (t0 : Int32) (t1 : Int32) (t2 : Int32) : Rs := cal (q_ChipMapModel_with M t2 t1 t0) fun M1 r2 => q_ChipMapModel_flushRegister_200 kf126 M1 v1 r2 v4
def q_ChipMapModel_flushRegister_126  : Nat → Mm → Int32 → Int32 → Int32 → Rs
  | 0, _, _, _, _ => none
  | n' + 1, M, v1, v3, v4 => if (M.1 0 52) ≤ v4 then (cal (q_ChipMapModel_operate M v1 v3) fun M1 r2 => some (M1, 0)) else (ix v4 8 <| lt' (M.1 40 (v4 : Int32).toNatClampNeg) fun x1 => ix x1 26 <| if (M.1 25 (x1 : Int32).toNatClampNeg) = v1 then (cal (q_ChipMapModel_isStored M x1) fun M2 r3 => if r3 = 0 then (cal (q_ChipMapModel_part M2 x1 v3) fun M4 r5 => ix v4 8 <| q_ChipMapModel_flushRegister_196 (q_ChipMapModel_flushRegister_126 n') M4 v1 v4 (r5 ||| (M4.1 41 (v4 : Int32).toNatClampNeg)) x1 v3) else (ix v4 8 <| q_ChipMapModel_flushRegister_196 (q_ChipMapModel_flushRegister_126 n') M2 v1 v4 (M2.1 41 (v4 : Int32).toNatClampNeg) x1 v3)) else (q_ChipMapModel_flushRegister_200 (q_ChipMapModel_flushRegister_126 n') M v1 v3 v4))
def q_ChipMapModel_flushRegister_101 (kf4 : Mm → Int32 → Int32 → Int32 → Rs) (M : Mm) (v1 : Int32) (v2 : Int32) (v3 : Int32) : Rs := kf4 M v1 v2 (v3 + 1)
def q_ChipMapModel_flushRegister_100 (kf4 : Mm → Int32 → Int32 → Int32 → Rs) (M : Mm) (v1 : Int32) (v3 : Int32) (t0 : Int32) : Rs := q_ChipMapModel_flushRegister_101 kf4 M v1 t0 v3
def q_ChipMapModel_flushRegister_95 (kf4 : Mm → Int32 → Int32 → Int32 → Rs) (M : Mm) (v1 : Int32) (v3 : Int32) : Rs := q_ChipMapModel_flushRegister_100 kf4 M v1 v3 1
def q_ChipMapModel_flushRegister_43 (kf4 : Mm → Int32 → Int32 → Int32 → Rs) (kf16 : Mm → Int32 → Int32 → Int32 → Int32 → Int32 → Rs) (M : Mm) (v1 : Int32) (v2 : Int32) (v3 : Int32) (v5 : Int32) (t0 : Int32) : Rs := kf16 M v1 v2 v3 t0 (v5 + 1)
def q_ChipMapModel_flushRegister_16 (kf4 : Mm → Int32 → Int32 → Int32 → Rs) : Nat → Mm → Int32 → Int32 → Int32 → Int32 → Int32 → Rs
  | 0, _, _, _, _, _, _ => none
  | n' + 1, M, v1, v2, v3, v4, v5 => if (M.1 0 52) ≤ v5 then (if v4 = (-1) then (q_ChipMapModel_flushRegister_101 kf4 M v1 v2 v3) else (ix v3 26 <| if (M.1 25 (v3 : Int32).toNatClampNeg) = v1 then (if v2 = 0 then (cal (q_ChipMapModel_isStored M v3) fun M1 r2 => if r2 = 0 then (q_ChipMapModel_flushRegister_95 kf4 M1 v1 v3) else (ix v3 78 <| ix v4 8 <| if (M1.1 33 (v3 : Int32).toNatClampNeg) = (M1.1 41 (v4 : Int32).toNatClampNeg) then (q_ChipMapModel_flushRegister_100 kf4 M1 v1 v3 0) else (q_ChipMapModel_flushRegister_95 kf4 M1 v1 v3))) else (q_ChipMapModel_flushRegister_95 kf4 M v1 v3)) else (q_ChipMapModel_flushRegister_101 kf4 M v1 v2 v3))) else (ix v5 8 <| if (M.1 40 (v5 : Int32).toNatClampNeg) = v3 then (q_ChipMapModel_flushRegister_43 kf4 (q_ChipMapModel_flushRegister_16 kf4 n') M v1 v2 v3 v5 v5) else (q_ChipMapModel_flushRegister_43 kf4 (q_ChipMapModel_flushRegister_16 kf4 n') M v1 v2 v3 v5 v4))
def q_ChipMapModel_flushRegister_4  : Nat → Mm → Int32 → Int32 → Int32 → Rs
  | 0, _, _, _, _ => none
  | n' + 1, M, v1, v2, v3 => if 26 ≤ v3 then (if v2 = 0 then (some (M, 0)) else (cal (q_ChipMapModel_reach M v1) fun M1 r2 => cal (q_ChipMapModel_still M1 v1) fun M3 r4 => q_ChipMapModel_flushRegister_126 4000 M3 v1 r4 0)) else (lt' (-1) fun x1 => q_ChipMapModel_flushRegister_16 (q_ChipMapModel_flushRegister_4 n') 4000 M v1 v2 v3 x1 0)
def q_ChipMapModel_flushRegister  (M : Mm) (a1 : Int32) : Rs := q_ChipMapModel_flushRegister_4 4000 M a1 0 0
set_option maxHeartbeats 4000000 in
set_option maxRecDepth 20000 in
theorem b_ChipMapModel_flushRegister_200 {p : Program} {l : Launch} {e : Env} {s s0 : State} {m : MethodId} {args : Array Value} {below : List Frame} {meth : Method} {c : Code} {D : va_G} {cI cZ cC cJ cA : ClassId} {P : Nat → Nat} {M' : Mm} {r' : Int32} {kf126 : Mm → Int32 → Int32 → Int32 → Rs} (hx : p.tables.exec = Jvm.exec) (hb : c.code = cX1_flushRegister) (hml : c.maxLocals = 6) (hr : meth.sig.returnType = none) (hlk : meth.locks = false) (hgt : ∀ w ∈ GT, w.before args s = true) (hown : s.vm.findClass RX1 = some m.cls) (hK : va_K D vwCl [(cI, .int), (cZ, .boolean), (cC, .char), (cJ, .long), (cA, .array .int)] s) (hO : Old s0 s) (hAO : ∀ q, (aP P 51) q → s0.heap.size ≤ q) (kk126 : ∀ (M : Mm) (v1 : Int32) (v3 : Int32) (v4 : Int32) (H : Heap) (locs : List Loc) (ls : Array Slot), lv_has ls 6 [(0, .ref (P 0)), (1, .int v1), (3, .int v3), (4, .int v4)] → va_P D vwCl ((wY cI cZ cC cJ cA P) M) H → va_D (aP P 51) ((wY cI cZ cC cJ cA P) M) → va_S (aP P 51) s.heap H locs → kf126 M v1 v3 v4 = some (M', r') → W p l e ({ frames := 6, cells := 0, slots := 0, locals := 139 }) s m args below meth c H locs 0 0 (MQ below (gQv D (aP P 51) ((wY cI cZ cC cJ cA P) M')) args s 0 0 (aP P 51)) (F0 m 126 ls [])) : ∀ (M : Mm) (v1 : Int32) (v3 : Int32) (v4 : Int32) (H : Heap) (locs : List Loc) (ls : Array Slot), lv_has ls 6 [(0, .ref (P 0)), (1, .int v1), (3, .int v3), (4, .int v4)] → va_P D vwCl ((wY cI cZ cC cJ cA P) M) H → va_D (aP P 51) ((wY cI cZ cC cJ cA P) M) → va_S (aP P 51) s.heap H locs → q_ChipMapModel_flushRegister_200 kf126 M v1 v3 v4 = some (M', r') → W p l e ({ frames := 6, cells := 0, slots := 0, locals := 139 }) s m args below meth c H locs 0 0 (MQ below (gQv D (aP P 51) ((wY cI cZ cC cJ cA P) M')) args s 0 0 (aP P 51)) (F0 m 200 ls []) := by
  intro M v1 v3 v4 H locs ls hl hP hD hS h
  unfold q_ChipMapModel_flushRegister_200 at h
  refine lv_iinc (v := (v4 + 1)) hx hb dX1_flushRegister_200 hl (k := 3) rfl rfl (Nat.le_of_ble_eq_true rfl) (lv' := [(4, .int (v4 + 1)), (0, .ref (P 0)), (1, .int v1), (3, .int v3)]) rfl (fun ls hl => ?_)
  refine lv_goto hx hb dX1_flushRegister_203 (tgt := 126) rfl ?_
  have hl := lv_sub hl [1, 2, 3, 0] (l' := [(0, .ref (P 0)), (1, .int v1), (3, .int v3), (4, .int (v4 + 1))]) rfl
  exact kk126 M v1 v3 (v4 + 1) H locs ls hl hP hD hS h
set_option maxHeartbeats 4000000 in
set_option maxRecDepth 20000 in
theorem b_ChipMapModel_flushRegister_196 {p : Program} {l : Launch} {e : Env} {s s0 : State} {m : MethodId} {args : Array Value} {below : List Frame} {meth : Method} {c : Code} {D : va_G} {cI cZ cC cJ cA : ClassId} {P : Nat → Nat} {M' : Mm} {r' : Int32} {kf126 : Mm → Int32 → Int32 → Int32 → Rs} (hx : p.tables.exec = Jvm.exec) (hb : c.code = cX1_flushRegister) (hml : c.maxLocals = 6) (hr : meth.sig.returnType = none) (hlk : meth.locks = false) (hgt : ∀ w ∈ GT, w.before args s = true) (hown : s.vm.findClass RX1 = some m.cls) (hK : va_K D vwCl [(cI, .int), (cZ, .boolean), (cC, .char), (cJ, .long), (cA, .array .int)] s) (hO : Old s0 s) (hAO : ∀ q, (aP P 51) q → s0.heap.size ≤ q) (kk126 : ∀ (M : Mm) (v1 : Int32) (v3 : Int32) (v4 : Int32) (H : Heap) (locs : List Loc) (ls : Array Slot), lv_has ls 6 [(0, .ref (P 0)), (1, .int v1), (3, .int v3), (4, .int v4)] → va_P D vwCl ((wY cI cZ cC cJ cA P) M) H → va_D (aP P 51) ((wY cI cZ cC cJ cA P) M) → va_S (aP P 51) s.heap H locs → kf126 M v1 v3 v4 = some (M', r') → W p l e ({ frames := 6, cells := 0, slots := 0, locals := 139 }) s m args below meth c H locs 0 0 (MQ below (gQv D (aP P 51) ((wY cI cZ cC cJ cA P) M')) args s 0 0 (aP P 51)) (F0 m 126 ls [])) : ∀ (M : Mm) (v1 : Int32) (v4 : Int32) (t0 : Int32) (t1 : Int32) (t2 : Int32) (H : Heap) (locs : List Loc) (ls : Array Slot), lv_has ls 6 [(0, .ref (P 0)), (1, .int v1), (4, .int v4)] → va_P D vwCl ((wY cI cZ cC cJ cA P) M) H → va_D (aP P 51) ((wY cI cZ cC cJ cA P) M) → va_S (aP P 51) s.heap H locs → q_ChipMapModel_flushRegister_196 kf126 M v1 v4 t0 t1 t2 = some (M', r') → W p l e ({ frames := 6, cells := 0, slots := 0, locals := 139 }) s m args below meth c H locs 0 0 (MQ below (gQv D (aP P 51) ((wY cI cZ cC cJ cA P) M')) args s 0 0 (aP P 51)) (F0 m 196 ls [.int t0, .int t1, .int t2, .ref (P 0)]) := by
  intro M v1 v4 t0 t1 t2 H locs ls hl hP hD hS h
  unfold q_ChipMapModel_flushRegister_196 at h
  obtain ⟨M1, r2, hq, h⟩ := cal_o h
  refine cx_i (va_runV (As := [.int t2, .int t1, .int t0]) (rest := []) ⟨hx, hb, hml, hown, hgt⟩ (z_ChipMapModel_with l D cI cZ cC cJ cA P s0 hAO M t2 t1 t0 M1 r2 hq) (cwV 3 hgt (gV wd_6_150 wd_6_152 sl__ChipMapModel____ChipMapModel___with____III_I_____ChipMapModel___with____III_I__ wd_0_15 wd_6_153) rfl rfl rfl (by decide +kernel) ⟨Nat.le_of_ble_eq_true rfl, Nat.le_of_ble_eq_true rfl⟩) (prV hP hK hD hO hAO hS (va_recv hK hP (ci := 1) (q0 := 0) rfl gY_0)) rfl rfl hl.1 rfl (lv_room (Nat.le_of_ble_eq_true rfl)) dX1_flushRegister_196 ⟨Nat.le_of_ble_eq_true rfl, Nat.le_of_ble_eq_true rfl⟩) hS (fun H locs hP hD hS => ?_)
  refine lv_istore_n hx hb dX1_flushRegister_199 rfl hl (Nat.le_of_ble_eq_true rfl) (lv' := [(3, .int r2), (0, .ref (P 0)), (1, .int v1), (4, .int v4)]) rfl (fun ls hl => ?_)
  have hl := lv_sub hl [1, 2, 0, 3] (l' := [(0, .ref (P 0)), (1, .int v1), (3, .int r2), (4, .int v4)]) rfl
  exact b_ChipMapModel_flushRegister_200 hx hb hml hr hlk hgt hown hK hO hAO kk126 M1 v1 r2 v4 H _ ls hl hP hD hS h
set_option maxHeartbeats 4000000 in
set_option maxRecDepth 20000 in
theorem b_ChipMapModel_flushRegister_126 {p : Program} {l : Launch} {e : Env} {s s0 : State} {m : MethodId} {args : Array Value} {below : List Frame} {meth : Method} {c : Code} {D : va_G} {cI cZ cC cJ cA : ClassId} {P : Nat → Nat} {M' : Mm} {r' : Int32}  (hx : p.tables.exec = Jvm.exec) (hb : c.code = cX1_flushRegister) (hml : c.maxLocals = 6) (hr : meth.sig.returnType = none) (hlk : meth.locks = false) (hgt : ∀ w ∈ GT, w.before args s = true) (hown : s.vm.findClass RX1 = some m.cls) (hK : va_K D vwCl [(cI, .int), (cZ, .boolean), (cC, .char), (cJ, .long), (cA, .array .int)] s) (hO : Old s0 s) (hAO : ∀ q, (aP P 51) q → s0.heap.size ≤ q)  : ∀ (n' : Nat) (M : Mm) (v1 : Int32) (v3 : Int32) (v4 : Int32) (H : Heap) (locs : List Loc) (ls : Array Slot), lv_has ls 6 [(0, .ref (P 0)), (1, .int v1), (3, .int v3), (4, .int v4)] → va_P D vwCl ((wY cI cZ cC cJ cA P) M) H → va_D (aP P 51) ((wY cI cZ cC cJ cA P) M) → va_S (aP P 51) s.heap H locs → q_ChipMapModel_flushRegister_126 n' M v1 v3 v4 = some (M', r') → W p l e ({ frames := 6, cells := 0, slots := 0, locals := 139 }) s m args below meth c H locs 0 0 (MQ below (gQv D (aP P 51) ((wY cI cZ cC cJ cA P) M')) args s 0 0 (aP P 51)) (F0 m 126 ls []) := by
  intro n'
  induction n' with
  | zero => exact fun _ _ _ _ _ _ _ _ _ _ _ h => (rs_n h).elim
  | succ n' ih =>
    intro M v1 v3 v4 H locs ls hl hP hD hS h
    rw [q_ChipMapModel_flushRegister_126] at h
    refine lv_iload hx hb dX1_flushRegister_126 (lv_at hl 3 rfl) ?_
    refine lv_aload_n hx hb dX1_flushRegister_128 rfl (lv_at hl 0 rfl) ?_
    refine va_get (D := D) (ci := 1) (v := .int (M.1 0 52)) (C := RX1) (T := TX1) (N := 76) hx hb hgt iwX1 hown hK hP 0 gY_0 rfl 52 (Nat.le_of_ble_eq_true rfl) (hgt _ wd_5_13) (fun _ h9 => h9) rfl dX1_flushRegister_129 ?_
    refine lv_icmp_ge hx hb dX1_flushRegister_132 (tgt := 206) rfl (fun hc => ?_) (fun hc => ?_)
    · have h := br_T hc h
      refine lv_aload_n hx hb dX1_flushRegister_206 rfl (lv_at hl 0 rfl) ?_
      refine lv_iload_n hx hb dX1_flushRegister_207 rfl (lv_at hl 1 rfl) ?_
      refine lv_iload_n hx hb dX1_flushRegister_208 rfl (lv_at hl 2 rfl) ?_
      obtain ⟨M1, r2, hq, h⟩ := cal_o h
      refine cx_v (va_runV (As := [.int v1, .int v3]) (rest := []) ⟨hx, hb, hml, hown, hgt⟩ (z_ChipMapModel_operate l D cI cZ cC cJ cA P s0 hAO M v1 v3 M1 r2 hq) (cwV 2 hgt (gV wd_6_154 wd_6_156 sl__ChipMapModel____ChipMapModel___operate____II_V_____ChipMapModel___operate____II_V__ wd_0_15 wd_6_157) rfl rfl rfl (by decide +kernel) ⟨Nat.le_of_ble_eq_true rfl, Nat.le_of_ble_eq_true rfl⟩) (prV hP hK hD hO hAO hS (va_recv hK hP (ci := 1) (q0 := 0) rfl gY_0)) rfl rfl hl.1 rfl (lv_room (Nat.le_of_ble_eq_true rfl)) dX1_flushRegister_209 ⟨Nat.le_of_ble_eq_true rfl, Nat.le_of_ble_eq_true rfl⟩) hS (fun H locs hP hD hS => ?_)
      exact rt_v (w := (wY cI cZ cC cJ cA P)) (r := r') hx hb hr hlk hP hD hS h dX1_flushRegister_212
    · have h := br_F hc h
      refine lv_aload_n hx hb dX1_flushRegister_135 rfl (lv_at hl 0 rfl) ?_
      refine va_get (D := D) (ci := 1) (v := .ref (P 40)) (C := RX1) (T := TX1) (N := 76) hx hb hgt iwX1 hown hK hP 0 gY_0 rfl 53 (Nat.le_of_ble_eq_true rfl) (hgt _ wd_5_14) (fun _ h9 => h9) rfl dX1_flushRegister_136 ?_
      refine lv_iload hx hb dX1_flushRegister_139 (lv_at hl 3 rfl) ?_
      refine va_iald hx hb hK hP 40 0 gY_40 rfl (ix_l h) dX1_flushRegister_141 ?_
      have h := ix_r h
      refine lv_topi (fun x1 ex1 => ?_)
      have h := lt_o ex1 h
      refine lv_istore hx hb dX1_flushRegister_142 hl (Nat.le_of_ble_eq_true rfl) (lv' := [(5, .int x1), (0, .ref (P 0)), (1, .int v1), (3, .int v3), (4, .int v4)]) rfl (fun ls hl => ?_)
      refine lv_aload_n hx hb dX1_flushRegister_144 rfl (lv_at hl 1 rfl) ?_
      refine va_get (D := D) (ci := 1) (v := .ref (P 25)) (C := RX1) (T := TX1) (N := 76) hx hb hgt iwX1 hown hK hP 0 gY_0 rfl 34 (Nat.le_of_ble_eq_true rfl) (hgt _ wd_4_235) (fun _ h9 => h9) rfl dX1_flushRegister_145 ?_
      refine lv_iload hx hb dX1_flushRegister_148 (lv_at hl 0 rfl) ?_
      refine va_iald hx hb hK hP 25 0 gY_25 rfl (ix_l h) dX1_flushRegister_150 ?_
      have h := ix_r h
      refine lv_iload_n hx hb dX1_flushRegister_151 rfl (lv_at hl 2 rfl) ?_
      refine lv_icmp_eq hx hb dX1_flushRegister_152 (tgt := 158) rfl (fun hc => ?_) (fun hc => ?_)
      · have h := br_T hc h
        refine lv_aload_n hx hb dX1_flushRegister_158 rfl (lv_at hl 1 rfl) ?_
        refine lv_iload_n hx hb dX1_flushRegister_159 rfl (lv_at hl 3 rfl) ?_
        refine lv_iload hx hb dX1_flushRegister_160 (lv_at hl 0 rfl) ?_
        refine lv_aload_n hx hb dX1_flushRegister_162 rfl (lv_at hl 1 rfl) ?_
        refine lv_iload hx hb dX1_flushRegister_163 (lv_at hl 0 rfl) ?_
        obtain ⟨M2, r3, hq, h⟩ := cal_o h
        refine cx_i (va_runV (As := [.int x1]) (rest := [.int x1, .int v3, .ref (P 0)]) ⟨hx, hb, hml, hown, hgt⟩ (z_ChipMapModel_isStored l D cI cZ cC cJ cA P s0 hAO M x1 M2 r3 hq) (cwV 1 hgt (gV wd_6_94 wd_6_96 sl__ChipMapModel____ChipMapModel___isStored____I_Z_____ChipMapModel___isStored____I_Z__ wd_0_15 wd_6_97) rfl rfl rfl (by decide +kernel) ⟨Nat.le_of_ble_eq_true rfl, Nat.le_of_ble_eq_true rfl⟩) (prV hP hK hD hO hAO hS (va_recv hK hP (ci := 1) (q0 := 0) rfl gY_0)) rfl rfl hl.1 rfl (lv_room (Nat.le_of_ble_eq_true rfl)) dX1_flushRegister_165 ⟨Nat.le_of_ble_eq_true rfl, Nat.le_of_ble_eq_true rfl⟩) hS (fun H locs hP hD hS => ?_)
        refine lv_if_eq hx hb dX1_flushRegister_168 (tgt := 181) rfl (fun hc => ?_) (fun hc => ?_)
        · have h := br_T hc h
          refine lv_aload_n hx hb dX1_flushRegister_181 rfl (lv_at hl 1 rfl) ?_
          refine lv_iload hx hb dX1_flushRegister_182 (lv_at hl 0 rfl) ?_
          refine lv_iload_n hx hb dX1_flushRegister_184 rfl (lv_at hl 3 rfl) ?_
          obtain ⟨M4, r5, hq, h⟩ := cal_o h
          refine cx_i (va_runV (As := [.int x1, .int v3]) (rest := [.int x1, .int v3, .ref (P 0)]) ⟨hx, hb, hml, hown, hgt⟩ (z_ChipMapModel_part l D cI cZ cC cJ cA P s0 hAO M2 x1 v3 M4 r5 hq) (cwV 2 hgt (gV wd_6_90 wd_6_92 sl__ChipMapModel____ChipMapModel___part____II_I_____ChipMapModel___part____II_I__ wd_0_15 wd_6_93) rfl rfl rfl (by decide +kernel) ⟨Nat.le_of_ble_eq_true rfl, Nat.le_of_ble_eq_true rfl⟩) (prV hP hK hD hO hAO hS (va_recv hK hP (ci := 1) (q0 := 0) rfl gY_0)) rfl rfl hl.1 rfl (lv_room (Nat.le_of_ble_eq_true rfl)) dX1_flushRegister_185 ⟨Nat.le_of_ble_eq_true rfl, Nat.le_of_ble_eq_true rfl⟩) hS (fun H locs hP hD hS => ?_)
          refine lv_aload_n hx hb dX1_flushRegister_188 rfl (lv_at hl 1 rfl) ?_
          refine va_get (D := D) (ci := 1) (v := .ref (P 41)) (C := RX1) (T := TX1) (N := 76) hx hb hgt iwX1 hown hK hP 0 gY_0 rfl 54 (Nat.le_of_ble_eq_true rfl) (hgt _ wd_5_15) (fun _ h9 => h9) rfl dX1_flushRegister_189 ?_
          refine lv_iload hx hb dX1_flushRegister_192 (lv_at hl 4 rfl) ?_
          refine va_iald hx hb hK hP 41 0 gY_41 rfl (ix_l h) dX1_flushRegister_194 ?_
          have h := ix_r h
          refine lv_ior hx hb dX1_flushRegister_195 ?_
          have hl := lv_sub hl [1, 2, 4] (l' := [(0, .ref (P 0)), (1, .int v1), (4, .int v4)]) rfl
          exact b_ChipMapModel_flushRegister_196 hx hb hml hr hlk hgt hown hK hO hAO ih M4 v1 v4 (r5 ||| (M4.1 41 (v4 : Int32).toNatClampNeg)) x1 v3 H _ ls hl hP hD hS h
        · have h := br_F hc h
          refine lv_aload_n hx hb dX1_flushRegister_171 rfl (lv_at hl 1 rfl) ?_
          refine va_get (D := D) (ci := 1) (v := .ref (P 41)) (C := RX1) (T := TX1) (N := 76) hx hb hgt iwX1 hown hK hP 0 gY_0 rfl 54 (Nat.le_of_ble_eq_true rfl) (hgt _ wd_5_15) (fun _ h9 => h9) rfl dX1_flushRegister_172 ?_
          refine lv_iload hx hb dX1_flushRegister_175 (lv_at hl 4 rfl) ?_
          refine va_iald hx hb hK hP 41 0 gY_41 rfl (ix_l h) dX1_flushRegister_177 ?_
          have h := ix_r h
          refine lv_goto hx hb dX1_flushRegister_178 (tgt := 196) rfl ?_
          have hl := lv_sub hl [1, 2, 4] (l' := [(0, .ref (P 0)), (1, .int v1), (4, .int v4)]) rfl
          exact b_ChipMapModel_flushRegister_196 hx hb hml hr hlk hgt hown hK hO hAO ih M2 v1 v4 (M2.1 41 (v4 : Int32).toNatClampNeg) x1 v3 H _ ls hl hP hD hS h
      · have h := br_F hc h
        refine lv_goto hx hb dX1_flushRegister_155 (tgt := 200) rfl ?_
        have hl := lv_sub hl [1, 2, 3, 4] (l' := [(0, .ref (P 0)), (1, .int v1), (3, .int v3), (4, .int v4)]) rfl
        exact b_ChipMapModel_flushRegister_200 hx hb hml hr hlk hgt hown hK hO hAO ih M v1 v3 v4 H _ ls hl hP hD hS h
set_option maxHeartbeats 4000000 in
set_option maxRecDepth 20000 in
theorem b_ChipMapModel_flushRegister_101 {p : Program} {l : Launch} {e : Env} {s s0 : State} {m : MethodId} {args : Array Value} {below : List Frame} {meth : Method} {c : Code} {D : va_G} {cI cZ cC cJ cA : ClassId} {P : Nat → Nat} {M' : Mm} {r' : Int32} {kf4 : Mm → Int32 → Int32 → Int32 → Rs} (hx : p.tables.exec = Jvm.exec) (hb : c.code = cX1_flushRegister) (hml : c.maxLocals = 6) (hr : meth.sig.returnType = none) (hlk : meth.locks = false) (hgt : ∀ w ∈ GT, w.before args s = true) (hown : s.vm.findClass RX1 = some m.cls) (hK : va_K D vwCl [(cI, .int), (cZ, .boolean), (cC, .char), (cJ, .long), (cA, .array .int)] s) (hO : Old s0 s) (hAO : ∀ q, (aP P 51) q → s0.heap.size ≤ q) (kk4 : ∀ (M : Mm) (v1 : Int32) (v2 : Int32) (v3 : Int32) (H : Heap) (locs : List Loc) (ls : Array Slot), lv_has ls 6 [(0, .ref (P 0)), (1, .int v1), (2, .int v2), (3, .int v3)] → va_P D vwCl ((wY cI cZ cC cJ cA P) M) H → va_D (aP P 51) ((wY cI cZ cC cJ cA P) M) → va_S (aP P 51) s.heap H locs → kf4 M v1 v2 v3 = some (M', r') → W p l e ({ frames := 6, cells := 0, slots := 0, locals := 139 }) s m args below meth c H locs 0 0 (MQ below (gQv D (aP P 51) ((wY cI cZ cC cJ cA P) M')) args s 0 0 (aP P 51)) (F0 m 4 ls [])) : ∀ (M : Mm) (v1 : Int32) (v2 : Int32) (v3 : Int32) (H : Heap) (locs : List Loc) (ls : Array Slot), lv_has ls 6 [(0, .ref (P 0)), (1, .int v1), (2, .int v2), (3, .int v3)] → va_P D vwCl ((wY cI cZ cC cJ cA P) M) H → va_D (aP P 51) ((wY cI cZ cC cJ cA P) M) → va_S (aP P 51) s.heap H locs → q_ChipMapModel_flushRegister_101 kf4 M v1 v2 v3 = some (M', r') → W p l e ({ frames := 6, cells := 0, slots := 0, locals := 139 }) s m args below meth c H locs 0 0 (MQ below (gQv D (aP P 51) ((wY cI cZ cC cJ cA P) M')) args s 0 0 (aP P 51)) (F0 m 101 ls []) := by
  intro M v1 v2 v3 H locs ls hl hP hD hS h
  unfold q_ChipMapModel_flushRegister_101 at h
  refine lv_iinc (v := (v3 + 1)) hx hb dX1_flushRegister_101 hl (k := 3) rfl rfl (Nat.le_of_ble_eq_true rfl) (lv' := [(3, .int (v3 + 1)), (0, .ref (P 0)), (1, .int v1), (2, .int v2)]) rfl (fun ls hl => ?_)
  refine lv_goto hx hb dX1_flushRegister_104 (tgt := 4) rfl ?_
  have hl := lv_sub hl [1, 2, 3, 0] (l' := [(0, .ref (P 0)), (1, .int v1), (2, .int v2), (3, .int (v3 + 1))]) rfl
  exact kk4 M v1 v2 (v3 + 1) H locs ls hl hP hD hS h
set_option maxHeartbeats 4000000 in
set_option maxRecDepth 20000 in
theorem b_ChipMapModel_flushRegister_100 {p : Program} {l : Launch} {e : Env} {s s0 : State} {m : MethodId} {args : Array Value} {below : List Frame} {meth : Method} {c : Code} {D : va_G} {cI cZ cC cJ cA : ClassId} {P : Nat → Nat} {M' : Mm} {r' : Int32} {kf4 : Mm → Int32 → Int32 → Int32 → Rs} (hx : p.tables.exec = Jvm.exec) (hb : c.code = cX1_flushRegister) (hml : c.maxLocals = 6) (hr : meth.sig.returnType = none) (hlk : meth.locks = false) (hgt : ∀ w ∈ GT, w.before args s = true) (hown : s.vm.findClass RX1 = some m.cls) (hK : va_K D vwCl [(cI, .int), (cZ, .boolean), (cC, .char), (cJ, .long), (cA, .array .int)] s) (hO : Old s0 s) (hAO : ∀ q, (aP P 51) q → s0.heap.size ≤ q) (kk4 : ∀ (M : Mm) (v1 : Int32) (v2 : Int32) (v3 : Int32) (H : Heap) (locs : List Loc) (ls : Array Slot), lv_has ls 6 [(0, .ref (P 0)), (1, .int v1), (2, .int v2), (3, .int v3)] → va_P D vwCl ((wY cI cZ cC cJ cA P) M) H → va_D (aP P 51) ((wY cI cZ cC cJ cA P) M) → va_S (aP P 51) s.heap H locs → kf4 M v1 v2 v3 = some (M', r') → W p l e ({ frames := 6, cells := 0, slots := 0, locals := 139 }) s m args below meth c H locs 0 0 (MQ below (gQv D (aP P 51) ((wY cI cZ cC cJ cA P) M')) args s 0 0 (aP P 51)) (F0 m 4 ls [])) : ∀ (M : Mm) (v1 : Int32) (v3 : Int32) (t0 : Int32) (H : Heap) (locs : List Loc) (ls : Array Slot), lv_has ls 6 [(0, .ref (P 0)), (1, .int v1), (3, .int v3)] → va_P D vwCl ((wY cI cZ cC cJ cA P) M) H → va_D (aP P 51) ((wY cI cZ cC cJ cA P) M) → va_S (aP P 51) s.heap H locs → q_ChipMapModel_flushRegister_100 kf4 M v1 v3 t0 = some (M', r') → W p l e ({ frames := 6, cells := 0, slots := 0, locals := 139 }) s m args below meth c H locs 0 0 (MQ below (gQv D (aP P 51) ((wY cI cZ cC cJ cA P) M')) args s 0 0 (aP P 51)) (F0 m 100 ls [.int t0]) := by
  intro M v1 v3 t0 H locs ls hl hP hD hS h
  unfold q_ChipMapModel_flushRegister_100 at h
  refine lv_istore_n hx hb dX1_flushRegister_100 rfl hl (Nat.le_of_ble_eq_true rfl) (lv' := [(2, .int t0), (0, .ref (P 0)), (1, .int v1), (3, .int v3)]) rfl (fun ls hl => ?_)
  have hl := lv_sub hl [1, 2, 0, 3] (l' := [(0, .ref (P 0)), (1, .int v1), (2, .int t0), (3, .int v3)]) rfl
  exact b_ChipMapModel_flushRegister_101 hx hb hml hr hlk hgt hown hK hO hAO kk4 M v1 t0 v3 H _ ls hl hP hD hS h
set_option maxHeartbeats 4000000 in
set_option maxRecDepth 20000 in
theorem b_ChipMapModel_flushRegister_95 {p : Program} {l : Launch} {e : Env} {s s0 : State} {m : MethodId} {args : Array Value} {below : List Frame} {meth : Method} {c : Code} {D : va_G} {cI cZ cC cJ cA : ClassId} {P : Nat → Nat} {M' : Mm} {r' : Int32} {kf4 : Mm → Int32 → Int32 → Int32 → Rs} (hx : p.tables.exec = Jvm.exec) (hb : c.code = cX1_flushRegister) (hml : c.maxLocals = 6) (hr : meth.sig.returnType = none) (hlk : meth.locks = false) (hgt : ∀ w ∈ GT, w.before args s = true) (hown : s.vm.findClass RX1 = some m.cls) (hK : va_K D vwCl [(cI, .int), (cZ, .boolean), (cC, .char), (cJ, .long), (cA, .array .int)] s) (hO : Old s0 s) (hAO : ∀ q, (aP P 51) q → s0.heap.size ≤ q) (kk4 : ∀ (M : Mm) (v1 : Int32) (v2 : Int32) (v3 : Int32) (H : Heap) (locs : List Loc) (ls : Array Slot), lv_has ls 6 [(0, .ref (P 0)), (1, .int v1), (2, .int v2), (3, .int v3)] → va_P D vwCl ((wY cI cZ cC cJ cA P) M) H → va_D (aP P 51) ((wY cI cZ cC cJ cA P) M) → va_S (aP P 51) s.heap H locs → kf4 M v1 v2 v3 = some (M', r') → W p l e ({ frames := 6, cells := 0, slots := 0, locals := 139 }) s m args below meth c H locs 0 0 (MQ below (gQv D (aP P 51) ((wY cI cZ cC cJ cA P) M')) args s 0 0 (aP P 51)) (F0 m 4 ls [])) : ∀ (M : Mm) (v1 : Int32) (v3 : Int32) (H : Heap) (locs : List Loc) (ls : Array Slot), lv_has ls 6 [(0, .ref (P 0)), (1, .int v1), (3, .int v3)] → va_P D vwCl ((wY cI cZ cC cJ cA P) M) H → va_D (aP P 51) ((wY cI cZ cC cJ cA P) M) → va_S (aP P 51) s.heap H locs → q_ChipMapModel_flushRegister_95 kf4 M v1 v3 = some (M', r') → W p l e ({ frames := 6, cells := 0, slots := 0, locals := 139 }) s m args below meth c H locs 0 0 (MQ below (gQv D (aP P 51) ((wY cI cZ cC cJ cA P) M')) args s 0 0 (aP P 51)) (F0 m 95 ls []) := by
  intro M v1 v3 H locs ls hl hP hD hS h
  unfold q_ChipMapModel_flushRegister_95 at h
  refine lv_iconst (v := 1) hx hb dX1_flushRegister_95 (by decide) ?_
  refine lv_goto hx hb dX1_flushRegister_96 (tgt := 100) rfl ?_
  have hl := lv_sub hl [0, 1, 2] (l' := [(0, .ref (P 0)), (1, .int v1), (3, .int v3)]) rfl
  exact b_ChipMapModel_flushRegister_100 hx hb hml hr hlk hgt hown hK hO hAO kk4 M v1 v3 1 H _ ls hl hP hD hS h
set_option maxHeartbeats 4000000 in
set_option maxRecDepth 20000 in
theorem b_ChipMapModel_flushRegister_43 {p : Program} {l : Launch} {e : Env} {s s0 : State} {m : MethodId} {args : Array Value} {below : List Frame} {meth : Method} {c : Code} {D : va_G} {cI cZ cC cJ cA : ClassId} {P : Nat → Nat} {M' : Mm} {r' : Int32} {kf4 : Mm → Int32 → Int32 → Int32 → Rs} {kf16 : Mm → Int32 → Int32 → Int32 → Int32 → Int32 → Rs} (hx : p.tables.exec = Jvm.exec) (hb : c.code = cX1_flushRegister) (hml : c.maxLocals = 6) (hr : meth.sig.returnType = none) (hlk : meth.locks = false) (hgt : ∀ w ∈ GT, w.before args s = true) (hown : s.vm.findClass RX1 = some m.cls) (hK : va_K D vwCl [(cI, .int), (cZ, .boolean), (cC, .char), (cJ, .long), (cA, .array .int)] s) (hO : Old s0 s) (hAO : ∀ q, (aP P 51) q → s0.heap.size ≤ q) (kk4 : ∀ (M : Mm) (v1 : Int32) (v2 : Int32) (v3 : Int32) (H : Heap) (locs : List Loc) (ls : Array Slot), lv_has ls 6 [(0, .ref (P 0)), (1, .int v1), (2, .int v2), (3, .int v3)] → va_P D vwCl ((wY cI cZ cC cJ cA P) M) H → va_D (aP P 51) ((wY cI cZ cC cJ cA P) M) → va_S (aP P 51) s.heap H locs → kf4 M v1 v2 v3 = some (M', r') → W p l e ({ frames := 6, cells := 0, slots := 0, locals := 139 }) s m args below meth c H locs 0 0 (MQ below (gQv D (aP P 51) ((wY cI cZ cC cJ cA P) M')) args s 0 0 (aP P 51)) (F0 m 4 ls [])) (kk16 : ∀ (M : Mm) (v1 : Int32) (v2 : Int32) (v3 : Int32) (v4 : Int32) (v5 : Int32) (H : Heap) (locs : List Loc) (ls : Array Slot), lv_has ls 6 [(0, .ref (P 0)), (1, .int v1), (2, .int v2), (3, .int v3), (4, .int v4), (5, .int v5)] → va_P D vwCl ((wY cI cZ cC cJ cA P) M) H → va_D (aP P 51) ((wY cI cZ cC cJ cA P) M) → va_S (aP P 51) s.heap H locs → kf16 M v1 v2 v3 v4 v5 = some (M', r') → W p l e ({ frames := 6, cells := 0, slots := 0, locals := 139 }) s m args below meth c H locs 0 0 (MQ below (gQv D (aP P 51) ((wY cI cZ cC cJ cA P) M')) args s 0 0 (aP P 51)) (F0 m 16 ls [])) : ∀ (M : Mm) (v1 : Int32) (v2 : Int32) (v3 : Int32) (v5 : Int32) (t0 : Int32) (H : Heap) (locs : List Loc) (ls : Array Slot), lv_has ls 6 [(0, .ref (P 0)), (1, .int v1), (2, .int v2), (3, .int v3), (5, .int v5)] → va_P D vwCl ((wY cI cZ cC cJ cA P) M) H → va_D (aP P 51) ((wY cI cZ cC cJ cA P) M) → va_S (aP P 51) s.heap H locs → q_ChipMapModel_flushRegister_43 kf4 kf16 M v1 v2 v3 v5 t0 = some (M', r') → W p l e ({ frames := 6, cells := 0, slots := 0, locals := 139 }) s m args below meth c H locs 0 0 (MQ below (gQv D (aP P 51) ((wY cI cZ cC cJ cA P) M')) args s 0 0 (aP P 51)) (F0 m 43 ls [.int t0]) := by
  intro M v1 v2 v3 v5 t0 H locs ls hl hP hD hS h
  unfold q_ChipMapModel_flushRegister_43 at h
  refine lv_istore hx hb dX1_flushRegister_43 hl (Nat.le_of_ble_eq_true rfl) (lv' := [(4, .int t0), (0, .ref (P 0)), (1, .int v1), (2, .int v2), (3, .int v3), (5, .int v5)]) rfl (fun ls hl => ?_)
  refine lv_iinc (v := (v5 + 1)) hx hb dX1_flushRegister_45 hl (k := 5) rfl rfl (Nat.le_of_ble_eq_true rfl) (lv' := [(5, .int (v5 + 1)), (4, .int t0), (0, .ref (P 0)), (1, .int v1), (2, .int v2), (3, .int v3)]) rfl (fun ls hl => ?_)
  refine lv_goto hx hb dX1_flushRegister_48 (tgt := 16) rfl ?_
  have hl := lv_sub hl [2, 3, 4, 5, 1, 0] (l' := [(0, .ref (P 0)), (1, .int v1), (2, .int v2), (3, .int v3), (4, .int t0), (5, .int (v5 + 1))]) rfl
  exact kk16 M v1 v2 v3 t0 (v5 + 1) H locs ls hl hP hD hS h
set_option maxHeartbeats 4000000 in
set_option maxRecDepth 20000 in
theorem b_ChipMapModel_flushRegister_16 {p : Program} {l : Launch} {e : Env} {s s0 : State} {m : MethodId} {args : Array Value} {below : List Frame} {meth : Method} {c : Code} {D : va_G} {cI cZ cC cJ cA : ClassId} {P : Nat → Nat} {M' : Mm} {r' : Int32} {kf4 : Mm → Int32 → Int32 → Int32 → Rs} (hx : p.tables.exec = Jvm.exec) (hb : c.code = cX1_flushRegister) (hml : c.maxLocals = 6) (hr : meth.sig.returnType = none) (hlk : meth.locks = false) (hgt : ∀ w ∈ GT, w.before args s = true) (hown : s.vm.findClass RX1 = some m.cls) (hK : va_K D vwCl [(cI, .int), (cZ, .boolean), (cC, .char), (cJ, .long), (cA, .array .int)] s) (hO : Old s0 s) (hAO : ∀ q, (aP P 51) q → s0.heap.size ≤ q) (kk4 : ∀ (M : Mm) (v1 : Int32) (v2 : Int32) (v3 : Int32) (H : Heap) (locs : List Loc) (ls : Array Slot), lv_has ls 6 [(0, .ref (P 0)), (1, .int v1), (2, .int v2), (3, .int v3)] → va_P D vwCl ((wY cI cZ cC cJ cA P) M) H → va_D (aP P 51) ((wY cI cZ cC cJ cA P) M) → va_S (aP P 51) s.heap H locs → kf4 M v1 v2 v3 = some (M', r') → W p l e ({ frames := 6, cells := 0, slots := 0, locals := 139 }) s m args below meth c H locs 0 0 (MQ below (gQv D (aP P 51) ((wY cI cZ cC cJ cA P) M')) args s 0 0 (aP P 51)) (F0 m 4 ls [])) : ∀ (n' : Nat) (M : Mm) (v1 : Int32) (v2 : Int32) (v3 : Int32) (v4 : Int32) (v5 : Int32) (H : Heap) (locs : List Loc) (ls : Array Slot), lv_has ls 6 [(0, .ref (P 0)), (1, .int v1), (2, .int v2), (3, .int v3), (4, .int v4), (5, .int v5)] → va_P D vwCl ((wY cI cZ cC cJ cA P) M) H → va_D (aP P 51) ((wY cI cZ cC cJ cA P) M) → va_S (aP P 51) s.heap H locs → q_ChipMapModel_flushRegister_16 kf4 n' M v1 v2 v3 v4 v5 = some (M', r') → W p l e ({ frames := 6, cells := 0, slots := 0, locals := 139 }) s m args below meth c H locs 0 0 (MQ below (gQv D (aP P 51) ((wY cI cZ cC cJ cA P) M')) args s 0 0 (aP P 51)) (F0 m 16 ls []) := by
  intro n'
  induction n' with
  | zero => exact fun _ _ _ _ _ _ _ _ _ _ _ _ _ h => (rs_n h).elim
  | succ n' ih =>
    intro M v1 v2 v3 v4 v5 H locs ls hl hP hD hS h
    rw [q_ChipMapModel_flushRegister_16] at h
    refine lv_iload hx hb dX1_flushRegister_16 (lv_at hl 5 rfl) ?_
    refine lv_aload_n hx hb dX1_flushRegister_18 rfl (lv_at hl 0 rfl) ?_
    refine va_get (D := D) (ci := 1) (v := .int (M.1 0 52)) (C := RX1) (T := TX1) (N := 76) hx hb hgt iwX1 hown hK hP 0 gY_0 rfl 52 (Nat.le_of_ble_eq_true rfl) (hgt _ wd_5_13) (fun _ h9 => h9) rfl dX1_flushRegister_19 ?_
    refine lv_icmp_ge hx hb dX1_flushRegister_22 (tgt := 51) rfl (fun hc => ?_) (fun hc => ?_)
    · have h := br_T hc h
      refine lv_iload hx hb dX1_flushRegister_51 (lv_at hl 4 rfl) ?_
      refine lv_iconst (v := (-1)) hx hb dX1_flushRegister_53 (by decide) ?_
      refine lv_icmp_eq hx hb dX1_flushRegister_54 (tgt := 101) rfl (fun hc => ?_) (fun hc => ?_)
      · have h := br_T hc h
        have hl := lv_sub hl [0, 1, 2, 3] (l' := [(0, .ref (P 0)), (1, .int v1), (2, .int v2), (3, .int v3)]) rfl
        exact b_ChipMapModel_flushRegister_101 hx hb hml hr hlk hgt hown hK hO hAO kk4 M v1 v2 v3 H _ ls hl hP hD hS h
      · have h := br_F hc h
        refine lv_aload_n hx hb dX1_flushRegister_57 rfl (lv_at hl 0 rfl) ?_
        refine va_get (D := D) (ci := 1) (v := .ref (P 25)) (C := RX1) (T := TX1) (N := 76) hx hb hgt iwX1 hown hK hP 0 gY_0 rfl 34 (Nat.le_of_ble_eq_true rfl) (hgt _ wd_4_235) (fun _ h9 => h9) rfl dX1_flushRegister_58 ?_
        refine lv_iload_n hx hb dX1_flushRegister_61 rfl (lv_at hl 3 rfl) ?_
        refine va_iald hx hb hK hP 25 0 gY_25 rfl (ix_l h) dX1_flushRegister_62 ?_
        have h := ix_r h
        refine lv_iload_n hx hb dX1_flushRegister_63 rfl (lv_at hl 1 rfl) ?_
        refine lv_icmp_ne hx hb dX1_flushRegister_64 (tgt := 101) rfl (fun hc => ?_) (fun hc => ?_)
        · have h := br_F hc h
          have hl := lv_sub hl [0, 1, 2, 3] (l' := [(0, .ref (P 0)), (1, .int v1), (2, .int v2), (3, .int v3)]) rfl
          exact b_ChipMapModel_flushRegister_101 hx hb hml hr hlk hgt hown hK hO hAO kk4 M v1 v2 v3 H _ ls hl hP hD hS h
        · have h := br_T hc h
          refine lv_iload_n hx hb dX1_flushRegister_67 rfl (lv_at hl 2 rfl) ?_
          refine lv_if_ne hx hb dX1_flushRegister_68 (tgt := 95) rfl (fun hc => ?_) (fun hc => ?_)
          · have h := br_F hc h
            have hl := lv_sub hl [0, 1, 3] (l' := [(0, .ref (P 0)), (1, .int v1), (3, .int v3)]) rfl
            exact b_ChipMapModel_flushRegister_95 hx hb hml hr hlk hgt hown hK hO hAO kk4 M v1 v3 H _ ls hl hP hD hS h
          · have h := br_T hc h
            refine lv_aload_n hx hb dX1_flushRegister_71 rfl (lv_at hl 0 rfl) ?_
            refine lv_iload_n hx hb dX1_flushRegister_72 rfl (lv_at hl 3 rfl) ?_
            obtain ⟨M1, r2, hq, h⟩ := cal_o h
            refine cx_i (va_runV (As := [.int v3]) (rest := []) ⟨hx, hb, hml, hown, hgt⟩ (z_ChipMapModel_isStored l D cI cZ cC cJ cA P s0 hAO M v3 M1 r2 hq) (cwV 1 hgt (gV wd_6_94 wd_6_96 sl__ChipMapModel____ChipMapModel___isStored____I_Z_____ChipMapModel___isStored____I_Z__ wd_0_15 wd_6_97) rfl rfl rfl (by decide +kernel) ⟨Nat.le_of_ble_eq_true rfl, Nat.le_of_ble_eq_true rfl⟩) (prV hP hK hD hO hAO hS (va_recv hK hP (ci := 1) (q0 := 0) rfl gY_0)) rfl rfl hl.1 rfl (lv_room (Nat.le_of_ble_eq_true rfl)) dX1_flushRegister_73 ⟨Nat.le_of_ble_eq_true rfl, Nat.le_of_ble_eq_true rfl⟩) hS (fun H locs hP hD hS => ?_)
            refine lv_if_eq hx hb dX1_flushRegister_76 (tgt := 95) rfl (fun hc => ?_) (fun hc => ?_)
            · have h := br_T hc h
              have hl := lv_sub hl [0, 1, 3] (l' := [(0, .ref (P 0)), (1, .int v1), (3, .int v3)]) rfl
              exact b_ChipMapModel_flushRegister_95 hx hb hml hr hlk hgt hown hK hO hAO kk4 M1 v1 v3 H _ ls hl hP hD hS h
            · have h := br_F hc h
              refine lv_aload_n hx hb dX1_flushRegister_79 rfl (lv_at hl 0 rfl) ?_
              refine va_get (D := D) (ci := 1) (v := .ref (P 33)) (C := RX1) (T := TX1) (N := 76) hx hb hgt iwX1 hown hK hP 0 gY_0 rfl 43 (Nat.le_of_ble_eq_true rfl) (hgt _ wd_5_4) (fun _ h9 => h9) rfl dX1_flushRegister_80 ?_
              refine lv_iload_n hx hb dX1_flushRegister_83 rfl (lv_at hl 3 rfl) ?_
              refine va_iald hx hb hK hP 33 0 gY_33 rfl (ix_l h) dX1_flushRegister_84 ?_
              have h := ix_r h
              refine lv_aload_n hx hb dX1_flushRegister_85 rfl (lv_at hl 0 rfl) ?_
              refine va_get (D := D) (ci := 1) (v := .ref (P 41)) (C := RX1) (T := TX1) (N := 76) hx hb hgt iwX1 hown hK hP 0 gY_0 rfl 54 (Nat.le_of_ble_eq_true rfl) (hgt _ wd_5_15) (fun _ h9 => h9) rfl dX1_flushRegister_86 ?_
              refine lv_iload hx hb dX1_flushRegister_89 (lv_at hl 4 rfl) ?_
              refine va_iald hx hb hK hP 41 0 gY_41 rfl (ix_l h) dX1_flushRegister_91 ?_
              have h := ix_r h
              refine lv_icmp_eq hx hb dX1_flushRegister_92 (tgt := 99) rfl (fun hc => ?_) (fun hc => ?_)
              · have h := br_T hc h
                refine lv_iconst (v := 0) hx hb dX1_flushRegister_99 (by decide) ?_
                have hl := lv_sub hl [0, 1, 3] (l' := [(0, .ref (P 0)), (1, .int v1), (3, .int v3)]) rfl
                exact b_ChipMapModel_flushRegister_100 hx hb hml hr hlk hgt hown hK hO hAO kk4 M1 v1 v3 0 H _ ls hl hP hD hS h
              · have h := br_F hc h
                have hl := lv_sub hl [0, 1, 3] (l' := [(0, .ref (P 0)), (1, .int v1), (3, .int v3)]) rfl
                exact b_ChipMapModel_flushRegister_95 hx hb hml hr hlk hgt hown hK hO hAO kk4 M1 v1 v3 H _ ls hl hP hD hS h
    · have h := br_F hc h
      refine lv_aload_n hx hb dX1_flushRegister_25 rfl (lv_at hl 0 rfl) ?_
      refine va_get (D := D) (ci := 1) (v := .ref (P 40)) (C := RX1) (T := TX1) (N := 76) hx hb hgt iwX1 hown hK hP 0 gY_0 rfl 53 (Nat.le_of_ble_eq_true rfl) (hgt _ wd_5_14) (fun _ h9 => h9) rfl dX1_flushRegister_26 ?_
      refine lv_iload hx hb dX1_flushRegister_29 (lv_at hl 5 rfl) ?_
      refine va_iald hx hb hK hP 40 0 gY_40 rfl (ix_l h) dX1_flushRegister_31 ?_
      have h := ix_r h
      refine lv_iload_n hx hb dX1_flushRegister_32 rfl (lv_at hl 3 rfl) ?_
      refine lv_icmp_ne hx hb dX1_flushRegister_33 (tgt := 41) rfl (fun hc => ?_) (fun hc => ?_)
      · have h := br_F hc h
        refine lv_iload hx hb dX1_flushRegister_41 (lv_at hl 4 rfl) ?_
        have hl := lv_sub hl [0, 1, 2, 3, 5] (l' := [(0, .ref (P 0)), (1, .int v1), (2, .int v2), (3, .int v3), (5, .int v5)]) rfl
        exact b_ChipMapModel_flushRegister_43 hx hb hml hr hlk hgt hown hK hO hAO kk4 ih M v1 v2 v3 v5 v4 H _ ls hl hP hD hS h
      · have h := br_T hc h
        refine lv_iload hx hb dX1_flushRegister_36 (lv_at hl 5 rfl) ?_
        refine lv_goto hx hb dX1_flushRegister_38 (tgt := 43) rfl ?_
        have hl := lv_sub hl [0, 1, 2, 3, 5] (l' := [(0, .ref (P 0)), (1, .int v1), (2, .int v2), (3, .int v3), (5, .int v5)]) rfl
        exact b_ChipMapModel_flushRegister_43 hx hb hml hr hlk hgt hown hK hO hAO kk4 ih M v1 v2 v3 v5 v5 H _ ls hl hP hD hS h
set_option maxHeartbeats 4000000 in
set_option maxRecDepth 20000 in
theorem b_ChipMapModel_flushRegister_4 {p : Program} {l : Launch} {e : Env} {s s0 : State} {m : MethodId} {args : Array Value} {below : List Frame} {meth : Method} {c : Code} {D : va_G} {cI cZ cC cJ cA : ClassId} {P : Nat → Nat} {M' : Mm} {r' : Int32}  (hx : p.tables.exec = Jvm.exec) (hb : c.code = cX1_flushRegister) (hml : c.maxLocals = 6) (hr : meth.sig.returnType = none) (hlk : meth.locks = false) (hgt : ∀ w ∈ GT, w.before args s = true) (hown : s.vm.findClass RX1 = some m.cls) (hK : va_K D vwCl [(cI, .int), (cZ, .boolean), (cC, .char), (cJ, .long), (cA, .array .int)] s) (hO : Old s0 s) (hAO : ∀ q, (aP P 51) q → s0.heap.size ≤ q)  : ∀ (n' : Nat) (M : Mm) (v1 : Int32) (v2 : Int32) (v3 : Int32) (H : Heap) (locs : List Loc) (ls : Array Slot), lv_has ls 6 [(0, .ref (P 0)), (1, .int v1), (2, .int v2), (3, .int v3)] → va_P D vwCl ((wY cI cZ cC cJ cA P) M) H → va_D (aP P 51) ((wY cI cZ cC cJ cA P) M) → va_S (aP P 51) s.heap H locs → q_ChipMapModel_flushRegister_4 n' M v1 v2 v3 = some (M', r') → W p l e ({ frames := 6, cells := 0, slots := 0, locals := 139 }) s m args below meth c H locs 0 0 (MQ below (gQv D (aP P 51) ((wY cI cZ cC cJ cA P) M')) args s 0 0 (aP P 51)) (F0 m 4 ls []) := by
  intro n'
  induction n' with
  | zero => exact fun _ _ _ _ _ _ _ _ _ _ _ h => (rs_n h).elim
  | succ n' ih =>
    intro M v1 v2 v3 H locs ls hl hP hD hS h
    rw [q_ChipMapModel_flushRegister_4] at h
    refine lv_iload_n hx hb dX1_flushRegister_4 rfl (lv_at hl 3 rfl) ?_
    refine lv_bipush (v := 26) hx hb dX1_flushRegister_5 (by decide) ?_
    refine lv_icmp_ge hx hb dX1_flushRegister_7 (tgt := 107) rfl (fun hc => ?_) (fun hc => ?_)
    · have h := br_T hc h
      refine lv_iload_n hx hb dX1_flushRegister_107 rfl (lv_at hl 2 rfl) ?_
      refine lv_if_ne hx hb dX1_flushRegister_108 (tgt := 112) rfl (fun hc => ?_) (fun hc => ?_)
      · have h := br_F hc h
        refine lv_aload_n hx hb dX1_flushRegister_112 rfl (lv_at hl 0 rfl) ?_
        refine lv_iload_n hx hb dX1_flushRegister_113 rfl (lv_at hl 1 rfl) ?_
        obtain ⟨M1, r2, hq, h⟩ := cal_o h
        refine cx_v (va_runV (As := [.int v1]) (rest := []) ⟨hx, hb, hml, hown, hgt⟩ (z_ChipMapModel_reach l D cI cZ cC cJ cA P s0 hAO M v1 M1 r2 hq) (cwV 1 hgt (gV wd_6_142 wd_6_144 sl__ChipMapModel____ChipMapModel___reach____I_V_____ChipMapModel___reach____I_V__ wd_0_15 wd_6_145) rfl rfl rfl (by decide +kernel) ⟨Nat.le_of_ble_eq_true rfl, Nat.le_of_ble_eq_true rfl⟩) (prV hP hK hD hO hAO hS (va_recv hK hP (ci := 1) (q0 := 0) rfl gY_0)) rfl rfl hl.1 rfl (lv_room (Nat.le_of_ble_eq_true rfl)) dX1_flushRegister_114 ⟨Nat.le_of_ble_eq_true rfl, Nat.le_of_ble_eq_true rfl⟩) hS (fun H locs hP hD hS => ?_)
        refine lv_aload_n hx hb dX1_flushRegister_117 rfl (lv_at hl 0 rfl) ?_
        refine lv_iload_n hx hb dX1_flushRegister_118 rfl (lv_at hl 1 rfl) ?_
        obtain ⟨M3, r4, hq, h⟩ := cal_o h
        refine cx_i (va_runV (As := [.int v1]) (rest := []) ⟨hx, hb, hml, hown, hgt⟩ (z_ChipMapModel_still l D cI cZ cC cJ cA P s0 hAO M1 v1 M3 r4 hq) (cwV 1 hgt (gV wd_6_146 wd_6_148 sl__ChipMapModel____ChipMapModel___still____I_I_____ChipMapModel___still____I_I__ wd_0_15 wd_6_149) rfl rfl rfl (by decide +kernel) ⟨Nat.le_of_ble_eq_true rfl, Nat.le_of_ble_eq_true rfl⟩) (prV hP hK hD hO hAO hS (va_recv hK hP (ci := 1) (q0 := 0) rfl gY_0)) rfl rfl hl.1 rfl (lv_room (Nat.le_of_ble_eq_true rfl)) dX1_flushRegister_119 ⟨Nat.le_of_ble_eq_true rfl, Nat.le_of_ble_eq_true rfl⟩) hS (fun H locs hP hD hS => ?_)
        refine lv_istore_n hx hb dX1_flushRegister_122 rfl hl (Nat.le_of_ble_eq_true rfl) (lv' := [(3, .int r4), (0, .ref (P 0)), (1, .int v1), (2, .int v2)]) rfl (fun ls hl => ?_)
        refine lv_iconst (v := 0) hx hb dX1_flushRegister_123 (by decide) ?_
        refine lv_istore hx hb dX1_flushRegister_124 hl (Nat.le_of_ble_eq_true rfl) (lv' := [(4, .int 0), (3, .int r4), (0, .ref (P 0)), (1, .int v1), (2, .int v2)]) rfl (fun ls hl => ?_)
        have hl := lv_sub hl [2, 3, 1, 0] (l' := [(0, .ref (P 0)), (1, .int v1), (3, .int r4), (4, .int 0)]) rfl
        exact b_ChipMapModel_flushRegister_126 hx hb hml hr hlk hgt hown hK hO hAO 4000 M3 v1 r4 0 H _ ls hl hP hD hS h
      · have h := br_T hc h
        exact rt_v (w := (wY cI cZ cC cJ cA P)) (r := r') hx hb hr hlk hP hD hS h dX1_flushRegister_111
    · have h := br_F hc h
      refine lv_iconst (v := (-1)) hx hb dX1_flushRegister_10 (by decide) ?_
      refine lv_topi (fun x1 ex1 => ?_)
      have h := lt_o ex1 h
      refine lv_istore hx hb dX1_flushRegister_11 hl (Nat.le_of_ble_eq_true rfl) (lv' := [(4, .int x1), (0, .ref (P 0)), (1, .int v1), (2, .int v2), (3, .int v3)]) rfl (fun ls hl => ?_)
      refine lv_iconst (v := 0) hx hb dX1_flushRegister_13 (by decide) ?_
      refine lv_istore hx hb dX1_flushRegister_14 hl (Nat.le_of_ble_eq_true rfl) (lv' := [(5, .int 0), (4, .int x1), (0, .ref (P 0)), (1, .int v1), (2, .int v2), (3, .int v3)]) rfl (fun ls hl => ?_)
      have hl := lv_sub hl [2, 3, 4, 5, 1, 0] (l' := [(0, .ref (P 0)), (1, .int v1), (2, .int v2), (3, .int v3), (4, .int x1), (5, .int 0)]) rfl
      exact b_ChipMapModel_flushRegister_16 hx hb hml hr hlk hgt hown hK hO hAO ih 4000 M v1 v2 v3 x1 0 H _ ls hl hP hD hS h
set_option maxHeartbeats 4000000 in
set_option maxRecDepth 20000 in
theorem b_ChipMapModel_flushRegister_0 {p : Program} {l : Launch} {e : Env} {s s0 : State} {m : MethodId} {args : Array Value} {below : List Frame} {meth : Method} {c : Code} {D : va_G} {cI cZ cC cJ cA : ClassId} {P : Nat → Nat} {M' : Mm} {r' : Int32}  (hx : p.tables.exec = Jvm.exec) (hb : c.code = cX1_flushRegister) (hml : c.maxLocals = 6) (hr : meth.sig.returnType = none) (hlk : meth.locks = false) (hgt : ∀ w ∈ GT, w.before args s = true) (hown : s.vm.findClass RX1 = some m.cls) (hK : va_K D vwCl [(cI, .int), (cZ, .boolean), (cC, .char), (cJ, .long), (cA, .array .int)] s) (hO : Old s0 s) (hAO : ∀ q, (aP P 51) q → s0.heap.size ≤ q)  : ∀ (M : Mm) (a1 : Int32) (H : Heap) (locs : List Loc) (ls : Array Slot), lv_has ls 6 [(0, .ref (P 0)), (1, .int a1)] → va_P D vwCl ((wY cI cZ cC cJ cA P) M) H → va_D (aP P 51) ((wY cI cZ cC cJ cA P) M) → va_S (aP P 51) s.heap H locs → q_ChipMapModel_flushRegister M a1 = some (M', r') → W p l e ({ frames := 6, cells := 0, slots := 0, locals := 139 }) s m args below meth c H locs 0 0 (MQ below (gQv D (aP P 51) ((wY cI cZ cC cJ cA P) M')) args s 0 0 (aP P 51)) (F0 m 0 ls []) := by
  intro M a1 H locs ls hl hP hD hS h
  unfold q_ChipMapModel_flushRegister at h
  refine lv_iconst (v := 0) hx hb dX1_flushRegister_0 (by decide) ?_
  refine lv_istore_n hx hb dX1_flushRegister_1 rfl hl (Nat.le_of_ble_eq_true rfl) (lv' := [(2, .int 0), (0, .ref (P 0)), (1, .int a1)]) rfl (fun ls hl => ?_)
  refine lv_iconst (v := 0) hx hb dX1_flushRegister_2 (by decide) ?_
  refine lv_istore_n hx hb dX1_flushRegister_3 rfl hl (Nat.le_of_ble_eq_true rfl) (lv' := [(3, .int 0), (2, .int 0), (0, .ref (P 0)), (1, .int a1)]) rfl (fun ls hl => ?_)
  have hl := lv_sub hl [2, 3, 1, 0] (l' := [(0, .ref (P 0)), (1, .int a1), (2, .int 0), (3, .int 0)]) rfl
  exact b_ChipMapModel_flushRegister_4 hx hb hml hr hlk hgt hown hK hO hAO 4000 M a1 0 0 H _ ls hl hP hD hS h
set_option maxHeartbeats 4000000 in
set_option maxRecDepth 20000 in
theorem z_ChipMapModel_flushRegister (l : Launch) (D : va_G) (cI cZ cC cJ cA : ClassId) (P : Nat → Nat) (s0 : State) (hAO : ∀ q, (aP P 51) q → s0.heap.size ≤ q) (M : Mm) (a1 : Int32) (M' : Mm) (r' : Int32) (h : q_ChipMapModel_flushRegister M a1 = some (M', r')) : Met l yX1_flushRegister wsX1_flushRegister ({ frames := 6, cells := 0, slots := 0, locals := 139 }) (va_Pc [.ref (P 0), .int a1] (gPre s0 D [(cI, .int), (cZ, .boolean), (cC, .char), (cJ, .long), (cA, .array .int)] (aP P 51) ((wY cI cZ cC cJ cA P) M))) (gQv D (aP P 51) ((wY cI cZ cC cJ cA P) M')) 0 0 (aP P 51) := by
  refine Met.ofW (cc := cX1_flushRegister) (maxL := 6) (ret := none) (by decide) rfl ?_
  intro p e s m args below meth c s₁ B hml hv
  obtain ⟨rfl, hP, hK, hD, hO⟩ := hv
  have hx := B.exec
  have hb := B.bytes
  have hr := B.returns
  have hlk := B.notSynchronized
  have hgt := fun w (h : w ∈ GT) => atoms_spec (ws := wsX1_flushRegister) B.pre w (List.mem_cons_of_mem _ h)
  have hown : s.vm.findClass RX1 = some m.cls := findClass_of_methodNamed B.named
  have hS : va_S (aP P 51) s.heap s.heap [] := va_S.rf
  have hl := lv_entry ([.ref (P 0), .int a1]) (n := 6) (Nat.le_of_ble_eq_true rfl)
  rw [lg_entry_eq]
  generalize (lg_sl ([.ref (P 0), .int a1]) ++ List.replicate (6 - (lg_sl ([.ref (P 0), .int a1])).length) Slot.unset).toArray = ls at hl ⊢
  have hl : lv_has ls 6 [(0, .ref (P 0)), (1, .int a1)] := hl
  exact b_ChipMapModel_flushRegister_0 hx hb hml hr hlk hgt hown hK hO hAO M a1 s.heap [] ls hl hP hD hS h
end
section
def q_ChipMapModel_flush_88 (kf11 : Mm → Int32 → Rs) (M : Mm) (v1 : Int32) : Rs := kf11 M (v1 + 1)
def q_ChipMapModel_flush_62 (kf11 : Mm → Int32 → Rs) (kf23 : Mm → Int32 → Int32 → Int32 → Rs) (M : Mm) (v1 : Int32) (v3 : Int32) (t0 : Int32) : Rs := kf23 M v1 t0 (v3 + 1)
def q_ChipMapModel_flush_57 (kf11 : Mm → Int32 → Rs) (kf23 : Mm → Int32 → Int32 → Int32 → Rs) (M : Mm) (v1 : Int32) (v3 : Int32) : Rs := q_ChipMapModel_flush_62 kf11 kf23 M v1 v3 1
def q_ChipMapModel_flush_23 (kf11 : Mm → Int32 → Rs) : Nat → Mm → Int32 → Int32 → Int32 → Rs
  | 0, _, _, _, _ => none
  | n' + 1, M, v1, v2, v3 => if v1 ≤ v3 then (if v2 = 0 then (ix v1 8 <| ix (M.1 40 (v1 : Int32).toNatClampNeg) 26 <| cal (q_ChipMapModel_flushRegister M (M.1 25 ((M.1 40 (v1 : Int32).toNatClampNeg) : Int32).toNatClampNeg)) fun M1 r2 => q_ChipMapModel_flush_88 kf11 M1 v1) else (q_ChipMapModel_flush_88 kf11 M v1)) else (if v2 = 0 then (ix v3 8 <| ix (M.1 40 (v3 : Int32).toNatClampNeg) 26 <| ix v1 8 <| ix (M.1 40 (v1 : Int32).toNatClampNeg) 26 <| if (M.1 25 ((M.1 40 (v3 : Int32).toNatClampNeg) : Int32).toNatClampNeg) = (M.1 25 ((M.1 40 (v1 : Int32).toNatClampNeg) : Int32).toNatClampNeg) then (q_ChipMapModel_flush_57 kf11 (q_ChipMapModel_flush_23 kf11 n') M v1 v3) else (q_ChipMapModel_flush_62 kf11 (q_ChipMapModel_flush_23 kf11 n') M v1 v3 0)) else (q_ChipMapModel_flush_57 kf11 (q_ChipMapModel_flush_23 kf11 n') M v1 v3))
def q_ChipMapModel_flush_11  : Nat → Mm → Int32 → Rs
  | 0, _, _ => none
  | n' + 1, M, v1 => if (M.1 0 52) ≤ v1 then (cal (q_ChipMapModel_end M) fun M1 r2 => if r2 = (-2) then (some (M1, r2)) else (lt' (stI M1 0 (upd (M1.1 0) 52 0)) fun M3 => some (M3, r2))) else (q_ChipMapModel_flush_23 (q_ChipMapModel_flush_11 n') 4000 M v1 0 0)
def q_ChipMapModel_flush  (M : Mm)  : Rs := lt' (stI M 0 (upd (M.1 0) 0 0)) fun M1 => cal (q_ChipMapModel_begin M1) fun M2 r3 => q_ChipMapModel_flush_11 4000 M2 0
set_option maxHeartbeats 4000000 in
set_option maxRecDepth 20000 in
theorem b_ChipMapModel_flush_88 {p : Program} {l : Launch} {e : Env} {s s0 : State} {m : MethodId} {args : Array Value} {below : List Frame} {meth : Method} {c : Code} {D : va_G} {cI cZ cC cJ cA : ClassId} {P : Nat → Nat} {M' : Mm} {r' : Int32} {kf11 : Mm → Int32 → Rs} (hx : p.tables.exec = Jvm.exec) (hb : c.code = cX1_flush) (hml : c.maxLocals = 4) (hr : meth.sig.returnType = (some .int)) (hlk : meth.locks = false) (hgt : ∀ w ∈ GT, w.before args s = true) (hown : s.vm.findClass RX1 = some m.cls) (hK : va_K D vwCl [(cI, .int), (cZ, .boolean), (cC, .char), (cJ, .long), (cA, .array .int)] s) (hO : Old s0 s) (hAO : ∀ q, (aP P 51) q → s0.heap.size ≤ q) (kk11 : ∀ (M : Mm) (v1 : Int32) (H : Heap) (locs : List Loc) (ls : Array Slot), lv_has ls 4 [(0, .ref (P 0)), (1, .int v1)] → va_P D vwCl ((wY cI cZ cC cJ cA P) M) H → va_D (aP P 51) ((wY cI cZ cC cJ cA P) M) → va_S (aP P 51) s.heap H locs → kf11 M v1 = some (M', r') → W p l e ({ frames := 7, cells := 0, slots := 0, locals := 164 }) s m args below meth c H locs 0 0 (MQ below (gQi D (aP P 51) ((wY cI cZ cC cJ cA P) M') r') args s 0 0 (aP P 51)) (F0 m 11 ls [])) : ∀ (M : Mm) (v1 : Int32) (H : Heap) (locs : List Loc) (ls : Array Slot), lv_has ls 4 [(0, .ref (P 0)), (1, .int v1)] → va_P D vwCl ((wY cI cZ cC cJ cA P) M) H → va_D (aP P 51) ((wY cI cZ cC cJ cA P) M) → va_S (aP P 51) s.heap H locs → q_ChipMapModel_flush_88 kf11 M v1 = some (M', r') → W p l e ({ frames := 7, cells := 0, slots := 0, locals := 164 }) s m args below meth c H locs 0 0 (MQ below (gQi D (aP P 51) ((wY cI cZ cC cJ cA P) M') r') args s 0 0 (aP P 51)) (F0 m 88 ls []) := by
  intro M v1 H locs ls hl hP hD hS h
  unfold q_ChipMapModel_flush_88 at h
  refine lv_iinc (v := (v1 + 1)) hx hb dX1_flush_88 hl (k := 1) rfl rfl (Nat.le_of_ble_eq_true rfl) (lv' := [(1, .int (v1 + 1)), (0, .ref (P 0))]) rfl (fun ls hl => ?_)
  refine lv_goto hx hb dX1_flush_91 (tgt := 11) rfl ?_
  have hl := lv_sub hl [1, 0] (l' := [(0, .ref (P 0)), (1, .int (v1 + 1))]) rfl
  exact kk11 M (v1 + 1) H locs ls hl hP hD hS h
set_option maxHeartbeats 4000000 in
set_option maxRecDepth 20000 in
theorem b_ChipMapModel_flush_62 {p : Program} {l : Launch} {e : Env} {s s0 : State} {m : MethodId} {args : Array Value} {below : List Frame} {meth : Method} {c : Code} {D : va_G} {cI cZ cC cJ cA : ClassId} {P : Nat → Nat} {M' : Mm} {r' : Int32} {kf11 : Mm → Int32 → Rs} {kf23 : Mm → Int32 → Int32 → Int32 → Rs} (hx : p.tables.exec = Jvm.exec) (hb : c.code = cX1_flush) (hml : c.maxLocals = 4) (hr : meth.sig.returnType = (some .int)) (hlk : meth.locks = false) (hgt : ∀ w ∈ GT, w.before args s = true) (hown : s.vm.findClass RX1 = some m.cls) (hK : va_K D vwCl [(cI, .int), (cZ, .boolean), (cC, .char), (cJ, .long), (cA, .array .int)] s) (hO : Old s0 s) (hAO : ∀ q, (aP P 51) q → s0.heap.size ≤ q) (kk11 : ∀ (M : Mm) (v1 : Int32) (H : Heap) (locs : List Loc) (ls : Array Slot), lv_has ls 4 [(0, .ref (P 0)), (1, .int v1)] → va_P D vwCl ((wY cI cZ cC cJ cA P) M) H → va_D (aP P 51) ((wY cI cZ cC cJ cA P) M) → va_S (aP P 51) s.heap H locs → kf11 M v1 = some (M', r') → W p l e ({ frames := 7, cells := 0, slots := 0, locals := 164 }) s m args below meth c H locs 0 0 (MQ below (gQi D (aP P 51) ((wY cI cZ cC cJ cA P) M') r') args s 0 0 (aP P 51)) (F0 m 11 ls [])) (kk23 : ∀ (M : Mm) (v1 : Int32) (v2 : Int32) (v3 : Int32) (H : Heap) (locs : List Loc) (ls : Array Slot), lv_has ls 4 [(0, .ref (P 0)), (1, .int v1), (2, .int v2), (3, .int v3)] → va_P D vwCl ((wY cI cZ cC cJ cA P) M) H → va_D (aP P 51) ((wY cI cZ cC cJ cA P) M) → va_S (aP P 51) s.heap H locs → kf23 M v1 v2 v3 = some (M', r') → W p l e ({ frames := 7, cells := 0, slots := 0, locals := 164 }) s m args below meth c H locs 0 0 (MQ below (gQi D (aP P 51) ((wY cI cZ cC cJ cA P) M') r') args s 0 0 (aP P 51)) (F0 m 23 ls [])) : ∀ (M : Mm) (v1 : Int32) (v3 : Int32) (t0 : Int32) (H : Heap) (locs : List Loc) (ls : Array Slot), lv_has ls 4 [(0, .ref (P 0)), (1, .int v1), (3, .int v3)] → va_P D vwCl ((wY cI cZ cC cJ cA P) M) H → va_D (aP P 51) ((wY cI cZ cC cJ cA P) M) → va_S (aP P 51) s.heap H locs → q_ChipMapModel_flush_62 kf11 kf23 M v1 v3 t0 = some (M', r') → W p l e ({ frames := 7, cells := 0, slots := 0, locals := 164 }) s m args below meth c H locs 0 0 (MQ below (gQi D (aP P 51) ((wY cI cZ cC cJ cA P) M') r') args s 0 0 (aP P 51)) (F0 m 62 ls [.int t0]) := by
  intro M v1 v3 t0 H locs ls hl hP hD hS h
  unfold q_ChipMapModel_flush_62 at h
  refine lv_istore_n hx hb dX1_flush_62 rfl hl (Nat.le_of_ble_eq_true rfl) (lv' := [(2, .int t0), (0, .ref (P 0)), (1, .int v1), (3, .int v3)]) rfl (fun ls hl => ?_)
  refine lv_iinc (v := (v3 + 1)) hx hb dX1_flush_63 hl (k := 3) rfl rfl (Nat.le_of_ble_eq_true rfl) (lv' := [(3, .int (v3 + 1)), (2, .int t0), (0, .ref (P 0)), (1, .int v1)]) rfl (fun ls hl => ?_)
  refine lv_goto hx hb dX1_flush_66 (tgt := 23) rfl ?_
  have hl := lv_sub hl [2, 3, 1, 0] (l' := [(0, .ref (P 0)), (1, .int v1), (2, .int t0), (3, .int (v3 + 1))]) rfl
  exact kk23 M v1 t0 (v3 + 1) H locs ls hl hP hD hS h
set_option maxHeartbeats 4000000 in
set_option maxRecDepth 20000 in
theorem b_ChipMapModel_flush_57 {p : Program} {l : Launch} {e : Env} {s s0 : State} {m : MethodId} {args : Array Value} {below : List Frame} {meth : Method} {c : Code} {D : va_G} {cI cZ cC cJ cA : ClassId} {P : Nat → Nat} {M' : Mm} {r' : Int32} {kf11 : Mm → Int32 → Rs} {kf23 : Mm → Int32 → Int32 → Int32 → Rs} (hx : p.tables.exec = Jvm.exec) (hb : c.code = cX1_flush) (hml : c.maxLocals = 4) (hr : meth.sig.returnType = (some .int)) (hlk : meth.locks = false) (hgt : ∀ w ∈ GT, w.before args s = true) (hown : s.vm.findClass RX1 = some m.cls) (hK : va_K D vwCl [(cI, .int), (cZ, .boolean), (cC, .char), (cJ, .long), (cA, .array .int)] s) (hO : Old s0 s) (hAO : ∀ q, (aP P 51) q → s0.heap.size ≤ q) (kk11 : ∀ (M : Mm) (v1 : Int32) (H : Heap) (locs : List Loc) (ls : Array Slot), lv_has ls 4 [(0, .ref (P 0)), (1, .int v1)] → va_P D vwCl ((wY cI cZ cC cJ cA P) M) H → va_D (aP P 51) ((wY cI cZ cC cJ cA P) M) → va_S (aP P 51) s.heap H locs → kf11 M v1 = some (M', r') → W p l e ({ frames := 7, cells := 0, slots := 0, locals := 164 }) s m args below meth c H locs 0 0 (MQ below (gQi D (aP P 51) ((wY cI cZ cC cJ cA P) M') r') args s 0 0 (aP P 51)) (F0 m 11 ls [])) (kk23 : ∀ (M : Mm) (v1 : Int32) (v2 : Int32) (v3 : Int32) (H : Heap) (locs : List Loc) (ls : Array Slot), lv_has ls 4 [(0, .ref (P 0)), (1, .int v1), (2, .int v2), (3, .int v3)] → va_P D vwCl ((wY cI cZ cC cJ cA P) M) H → va_D (aP P 51) ((wY cI cZ cC cJ cA P) M) → va_S (aP P 51) s.heap H locs → kf23 M v1 v2 v3 = some (M', r') → W p l e ({ frames := 7, cells := 0, slots := 0, locals := 164 }) s m args below meth c H locs 0 0 (MQ below (gQi D (aP P 51) ((wY cI cZ cC cJ cA P) M') r') args s 0 0 (aP P 51)) (F0 m 23 ls [])) : ∀ (M : Mm) (v1 : Int32) (v3 : Int32) (H : Heap) (locs : List Loc) (ls : Array Slot), lv_has ls 4 [(0, .ref (P 0)), (1, .int v1), (3, .int v3)] → va_P D vwCl ((wY cI cZ cC cJ cA P) M) H → va_D (aP P 51) ((wY cI cZ cC cJ cA P) M) → va_S (aP P 51) s.heap H locs → q_ChipMapModel_flush_57 kf11 kf23 M v1 v3 = some (M', r') → W p l e ({ frames := 7, cells := 0, slots := 0, locals := 164 }) s m args below meth c H locs 0 0 (MQ below (gQi D (aP P 51) ((wY cI cZ cC cJ cA P) M') r') args s 0 0 (aP P 51)) (F0 m 57 ls []) := by
  intro M v1 v3 H locs ls hl hP hD hS h
  unfold q_ChipMapModel_flush_57 at h
  refine lv_iconst (v := 1) hx hb dX1_flush_57 (by decide) ?_
  refine lv_goto hx hb dX1_flush_58 (tgt := 62) rfl ?_
  have hl := lv_sub hl [0, 1, 2] (l' := [(0, .ref (P 0)), (1, .int v1), (3, .int v3)]) rfl
  exact b_ChipMapModel_flush_62 hx hb hml hr hlk hgt hown hK hO hAO kk11 kk23 M v1 v3 1 H _ ls hl hP hD hS h
set_option maxHeartbeats 4000000 in
set_option maxRecDepth 20000 in
theorem b_ChipMapModel_flush_23 {p : Program} {l : Launch} {e : Env} {s s0 : State} {m : MethodId} {args : Array Value} {below : List Frame} {meth : Method} {c : Code} {D : va_G} {cI cZ cC cJ cA : ClassId} {P : Nat → Nat} {M' : Mm} {r' : Int32} {kf11 : Mm → Int32 → Rs} (hx : p.tables.exec = Jvm.exec) (hb : c.code = cX1_flush) (hml : c.maxLocals = 4) (hr : meth.sig.returnType = (some .int)) (hlk : meth.locks = false) (hgt : ∀ w ∈ GT, w.before args s = true) (hown : s.vm.findClass RX1 = some m.cls) (hK : va_K D vwCl [(cI, .int), (cZ, .boolean), (cC, .char), (cJ, .long), (cA, .array .int)] s) (hO : Old s0 s) (hAO : ∀ q, (aP P 51) q → s0.heap.size ≤ q) (kk11 : ∀ (M : Mm) (v1 : Int32) (H : Heap) (locs : List Loc) (ls : Array Slot), lv_has ls 4 [(0, .ref (P 0)), (1, .int v1)] → va_P D vwCl ((wY cI cZ cC cJ cA P) M) H → va_D (aP P 51) ((wY cI cZ cC cJ cA P) M) → va_S (aP P 51) s.heap H locs → kf11 M v1 = some (M', r') → W p l e ({ frames := 7, cells := 0, slots := 0, locals := 164 }) s m args below meth c H locs 0 0 (MQ below (gQi D (aP P 51) ((wY cI cZ cC cJ cA P) M') r') args s 0 0 (aP P 51)) (F0 m 11 ls [])) : ∀ (n' : Nat) (M : Mm) (v1 : Int32) (v2 : Int32) (v3 : Int32) (H : Heap) (locs : List Loc) (ls : Array Slot), lv_has ls 4 [(0, .ref (P 0)), (1, .int v1), (2, .int v2), (3, .int v3)] → va_P D vwCl ((wY cI cZ cC cJ cA P) M) H → va_D (aP P 51) ((wY cI cZ cC cJ cA P) M) → va_S (aP P 51) s.heap H locs → q_ChipMapModel_flush_23 kf11 n' M v1 v2 v3 = some (M', r') → W p l e ({ frames := 7, cells := 0, slots := 0, locals := 164 }) s m args below meth c H locs 0 0 (MQ below (gQi D (aP P 51) ((wY cI cZ cC cJ cA P) M') r') args s 0 0 (aP P 51)) (F0 m 23 ls []) := by
  intro n'
  induction n' with
  | zero => exact fun _ _ _ _ _ _ _ _ _ _ _ h => (rs_n h).elim
  | succ n' ih =>
    intro M v1 v2 v3 H locs ls hl hP hD hS h
    rw [q_ChipMapModel_flush_23] at h
    refine lv_iload_n hx hb dX1_flush_23 rfl (lv_at hl 3 rfl) ?_
    refine lv_iload_n hx hb dX1_flush_24 rfl (lv_at hl 1 rfl) ?_
    refine lv_icmp_ge hx hb dX1_flush_25 (tgt := 69) rfl (fun hc => ?_) (fun hc => ?_)
    · have h := br_T hc h
      refine lv_iload_n hx hb dX1_flush_69 rfl (lv_at hl 2 rfl) ?_
      refine lv_if_ne hx hb dX1_flush_70 (tgt := 88) rfl (fun hc => ?_) (fun hc => ?_)
      · have h := br_F hc h
        have hl := lv_sub hl [0, 1] (l' := [(0, .ref (P 0)), (1, .int v1)]) rfl
        exact b_ChipMapModel_flush_88 hx hb hml hr hlk hgt hown hK hO hAO kk11 M v1 H _ ls hl hP hD hS h
      · have h := br_T hc h
        refine lv_aload_n hx hb dX1_flush_73 rfl (lv_at hl 0 rfl) ?_
        refine lv_aload_n hx hb dX1_flush_74 rfl (lv_at hl 0 rfl) ?_
        refine va_get (D := D) (ci := 1) (v := .ref (P 25)) (C := RX1) (T := TX1) (N := 76) hx hb hgt iwX1 hown hK hP 0 gY_0 rfl 34 (Nat.le_of_ble_eq_true rfl) (hgt _ wd_4_235) (fun _ h9 => h9) rfl dX1_flush_75 ?_
        refine lv_aload_n hx hb dX1_flush_78 rfl (lv_at hl 0 rfl) ?_
        refine va_get (D := D) (ci := 1) (v := .ref (P 40)) (C := RX1) (T := TX1) (N := 76) hx hb hgt iwX1 hown hK hP 0 gY_0 rfl 53 (Nat.le_of_ble_eq_true rfl) (hgt _ wd_5_14) (fun _ h9 => h9) rfl dX1_flush_79 ?_
        refine lv_iload_n hx hb dX1_flush_82 rfl (lv_at hl 1 rfl) ?_
        refine va_iald hx hb hK hP 40 0 gY_40 rfl (ix_l h) dX1_flush_83 ?_
        have h := ix_r h
        refine va_iald hx hb hK hP 25 0 gY_25 rfl (ix_l h) dX1_flush_84 ?_
        have h := ix_r h
        obtain ⟨M1, r2, hq, h⟩ := cal_o h
        refine cx_v (va_runV (As := [.int (M.1 25 ((M.1 40 (v1 : Int32).toNatClampNeg) : Int32).toNatClampNeg)]) (rest := []) ⟨hx, hb, hml, hown, hgt⟩ (z_ChipMapModel_flushRegister l D cI cZ cC cJ cA P s0 hAO M (M.1 25 ((M.1 40 (v1 : Int32).toNatClampNeg) : Int32).toNatClampNeg) M1 r2 hq) (cwV 1 hgt (gV wd_6_182 wd_6_184 sl__ChipMapModel____ChipMapModel___flushRegister____I_V_____ChipMapModel___flushRegister____I_V__ wd_0_15 wd_6_185) rfl rfl rfl (by decide +kernel) ⟨Nat.le_of_ble_eq_true rfl, Nat.le_of_ble_eq_true rfl⟩) (prV hP hK hD hO hAO hS (va_recv hK hP (ci := 1) (q0 := 0) rfl gY_0)) rfl rfl hl.1 rfl (lv_room (Nat.le_of_ble_eq_true rfl)) dX1_flush_85 ⟨Nat.le_of_ble_eq_true rfl, Nat.le_of_ble_eq_true rfl⟩) hS (fun H locs hP hD hS => ?_)
        have hl := lv_sub hl [0, 1] (l' := [(0, .ref (P 0)), (1, .int v1)]) rfl
        exact b_ChipMapModel_flush_88 hx hb hml hr hlk hgt hown hK hO hAO kk11 M1 v1 H _ ls hl hP hD hS h
    · have h := br_F hc h
      refine lv_iload_n hx hb dX1_flush_28 rfl (lv_at hl 2 rfl) ?_
      refine lv_if_ne hx hb dX1_flush_29 (tgt := 57) rfl (fun hc => ?_) (fun hc => ?_)
      · have h := br_F hc h
        have hl := lv_sub hl [0, 1, 3] (l' := [(0, .ref (P 0)), (1, .int v1), (3, .int v3)]) rfl
        exact b_ChipMapModel_flush_57 hx hb hml hr hlk hgt hown hK hO hAO kk11 ih M v1 v3 H _ ls hl hP hD hS h
      · have h := br_T hc h
        refine lv_aload_n hx hb dX1_flush_32 rfl (lv_at hl 0 rfl) ?_
        refine va_get (D := D) (ci := 1) (v := .ref (P 25)) (C := RX1) (T := TX1) (N := 76) hx hb hgt iwX1 hown hK hP 0 gY_0 rfl 34 (Nat.le_of_ble_eq_true rfl) (hgt _ wd_4_235) (fun _ h9 => h9) rfl dX1_flush_33 ?_
        refine lv_aload_n hx hb dX1_flush_36 rfl (lv_at hl 0 rfl) ?_
        refine va_get (D := D) (ci := 1) (v := .ref (P 40)) (C := RX1) (T := TX1) (N := 76) hx hb hgt iwX1 hown hK hP 0 gY_0 rfl 53 (Nat.le_of_ble_eq_true rfl) (hgt _ wd_5_14) (fun _ h9 => h9) rfl dX1_flush_37 ?_
        refine lv_iload_n hx hb dX1_flush_40 rfl (lv_at hl 3 rfl) ?_
        refine va_iald hx hb hK hP 40 0 gY_40 rfl (ix_l h) dX1_flush_41 ?_
        have h := ix_r h
        refine va_iald hx hb hK hP 25 0 gY_25 rfl (ix_l h) dX1_flush_42 ?_
        have h := ix_r h
        refine lv_aload_n hx hb dX1_flush_43 rfl (lv_at hl 0 rfl) ?_
        refine va_get (D := D) (ci := 1) (v := .ref (P 25)) (C := RX1) (T := TX1) (N := 76) hx hb hgt iwX1 hown hK hP 0 gY_0 rfl 34 (Nat.le_of_ble_eq_true rfl) (hgt _ wd_4_235) (fun _ h9 => h9) rfl dX1_flush_44 ?_
        refine lv_aload_n hx hb dX1_flush_47 rfl (lv_at hl 0 rfl) ?_
        refine va_get (D := D) (ci := 1) (v := .ref (P 40)) (C := RX1) (T := TX1) (N := 76) hx hb hgt iwX1 hown hK hP 0 gY_0 rfl 53 (Nat.le_of_ble_eq_true rfl) (hgt _ wd_5_14) (fun _ h9 => h9) rfl dX1_flush_48 ?_
        refine lv_iload_n hx hb dX1_flush_51 rfl (lv_at hl 1 rfl) ?_
        refine va_iald hx hb hK hP 40 0 gY_40 rfl (ix_l h) dX1_flush_52 ?_
        have h := ix_r h
        refine va_iald hx hb hK hP 25 0 gY_25 rfl (ix_l h) dX1_flush_53 ?_
        have h := ix_r h
        refine lv_icmp_ne hx hb dX1_flush_54 (tgt := 61) rfl (fun hc => ?_) (fun hc => ?_)
        · have h := br_F hc h
          refine lv_iconst (v := 0) hx hb dX1_flush_61 (by decide) ?_
          have hl := lv_sub hl [0, 1, 3] (l' := [(0, .ref (P 0)), (1, .int v1), (3, .int v3)]) rfl
          exact b_ChipMapModel_flush_62 hx hb hml hr hlk hgt hown hK hO hAO kk11 ih M v1 v3 0 H _ ls hl hP hD hS h
        · have h := br_T hc h
          have hl := lv_sub hl [0, 1, 3] (l' := [(0, .ref (P 0)), (1, .int v1), (3, .int v3)]) rfl
          exact b_ChipMapModel_flush_57 hx hb hml hr hlk hgt hown hK hO hAO kk11 ih M v1 v3 H _ ls hl hP hD hS h
set_option maxHeartbeats 4000000 in
set_option maxRecDepth 20000 in
theorem b_ChipMapModel_flush_11 {p : Program} {l : Launch} {e : Env} {s s0 : State} {m : MethodId} {args : Array Value} {below : List Frame} {meth : Method} {c : Code} {D : va_G} {cI cZ cC cJ cA : ClassId} {P : Nat → Nat} {M' : Mm} {r' : Int32}  (hx : p.tables.exec = Jvm.exec) (hb : c.code = cX1_flush) (hml : c.maxLocals = 4) (hr : meth.sig.returnType = (some .int)) (hlk : meth.locks = false) (hgt : ∀ w ∈ GT, w.before args s = true) (hown : s.vm.findClass RX1 = some m.cls) (hK : va_K D vwCl [(cI, .int), (cZ, .boolean), (cC, .char), (cJ, .long), (cA, .array .int)] s) (hO : Old s0 s) (hAO : ∀ q, (aP P 51) q → s0.heap.size ≤ q)  : ∀ (n' : Nat) (M : Mm) (v1 : Int32) (H : Heap) (locs : List Loc) (ls : Array Slot), lv_has ls 4 [(0, .ref (P 0)), (1, .int v1)] → va_P D vwCl ((wY cI cZ cC cJ cA P) M) H → va_D (aP P 51) ((wY cI cZ cC cJ cA P) M) → va_S (aP P 51) s.heap H locs → q_ChipMapModel_flush_11 n' M v1 = some (M', r') → W p l e ({ frames := 7, cells := 0, slots := 0, locals := 164 }) s m args below meth c H locs 0 0 (MQ below (gQi D (aP P 51) ((wY cI cZ cC cJ cA P) M') r') args s 0 0 (aP P 51)) (F0 m 11 ls []) := by
  intro n'
  induction n' with
  | zero => exact fun _ _ _ _ _ _ _ _ _ h => (rs_n h).elim
  | succ n' ih =>
    intro M v1 H locs ls hl hP hD hS h
    rw [q_ChipMapModel_flush_11] at h
    refine lv_iload_n hx hb dX1_flush_11 rfl (lv_at hl 1 rfl) ?_
    refine lv_aload_n hx hb dX1_flush_12 rfl (lv_at hl 0 rfl) ?_
    refine va_get (D := D) (ci := 1) (v := .int (M.1 0 52)) (C := RX1) (T := TX1) (N := 76) hx hb hgt iwX1 hown hK hP 0 gY_0 rfl 52 (Nat.le_of_ble_eq_true rfl) (hgt _ wd_5_13) (fun _ h9 => h9) rfl dX1_flush_13 ?_
    refine lv_icmp_ge hx hb dX1_flush_16 (tgt := 94) rfl (fun hc => ?_) (fun hc => ?_)
    · have h := br_T hc h
      refine lv_aload_n hx hb dX1_flush_94 rfl (lv_at hl 0 rfl) ?_
      obtain ⟨M1, r2, hq, h⟩ := cal_o h
      refine cx_i (va_runV (As := []) (rest := []) ⟨hx, hb, hml, hown, hgt⟩ (z_ChipMapModel_end l D cI cZ cC cJ cA P s0 hAO M M1 r2 hq) (cwV 0 hgt (gV wd_6_158 wd_6_160 sl__ChipMapModel____ChipMapModel___end_____I_____ChipMapModel___end_____I__ wd_0_15 wd_6_161) rfl rfl rfl (by decide +kernel) ⟨Nat.le_of_ble_eq_true rfl, Nat.le_of_ble_eq_true rfl⟩) (prV hP hK hD hO hAO hS (va_recv hK hP (ci := 1) (q0 := 0) rfl gY_0)) rfl rfl hl.1 rfl (lv_room (Nat.le_of_ble_eq_true rfl)) dX1_flush_95 ⟨Nat.le_of_ble_eq_true rfl, Nat.le_of_ble_eq_true rfl⟩) hS (fun H locs hP hD hS => ?_)
      refine lv_istore_n hx hb dX1_flush_98 rfl hl (Nat.le_of_ble_eq_true rfl) (lv' := [(1, .int r2), (0, .ref (P 0))]) rfl (fun ls hl => ?_)
      refine lv_iload_n hx hb dX1_flush_99 rfl (lv_at hl 0 rfl) ?_
      refine lv_bipush (v := (-2)) hx hb dX1_flush_100 (by decide) ?_
      refine lv_icmp_eq hx hb dX1_flush_102 (tgt := 110) rfl (fun hc => ?_) (fun hc => ?_)
      · have h := br_T hc h
        refine lv_iload_n hx hb dX1_flush_110 rfl (lv_at hl 0 rfl) ?_
        exact rt_i (w := (wY cI cZ cC cJ cA P)) hx hb hr hlk hP hD hS h dX1_flush_111
      · have h := br_F hc h
        refine lv_aload_n hx hb dX1_flush_105 rfl (lv_at hl 1 rfl) ?_
        refine lv_iconst (v := 0) hx hb dX1_flush_106 (by decide) ?_
        refine pm_put (w := (wY cI cZ cC cJ cA P)) (D := D) (ci := 1) (x := 0) (ty := .int) (C := RX1) (T := TX1) (N := 76) hx hb hgt iwX1 tyX1 tyX1_ok nmX1 hown hK hP hD hS 0 gY_0 rfl 52 (Nat.le_of_ble_eq_true rfl) (hgt _ wd_5_13) (fun _ h9 => h9) rfl (by decide +kernel) rfl rfl (Nat.le_of_ble_eq_true rfl) (sY_0_52 _) dX1_flush_107 (fun M3 eM3 H locs hP hD hS => ?_)
        have h := lt_o eM3 h
        refine lv_iload_n hx hb dX1_flush_110 rfl (lv_at hl 0 rfl) ?_
        exact rt_i (w := (wY cI cZ cC cJ cA P)) hx hb hr hlk hP hD hS h dX1_flush_111
    · have h := br_F hc h
      refine lv_iconst (v := 0) hx hb dX1_flush_19 (by decide) ?_
      refine lv_istore_n hx hb dX1_flush_20 rfl hl (Nat.le_of_ble_eq_true rfl) (lv' := [(2, .int 0), (0, .ref (P 0)), (1, .int v1)]) rfl (fun ls hl => ?_)
      refine lv_iconst (v := 0) hx hb dX1_flush_21 (by decide) ?_
      refine lv_istore_n hx hb dX1_flush_22 rfl hl (Nat.le_of_ble_eq_true rfl) (lv' := [(3, .int 0), (2, .int 0), (0, .ref (P 0)), (1, .int v1)]) rfl (fun ls hl => ?_)
      have hl := lv_sub hl [2, 3, 1, 0] (l' := [(0, .ref (P 0)), (1, .int v1), (2, .int 0), (3, .int 0)]) rfl
      exact b_ChipMapModel_flush_23 hx hb hml hr hlk hgt hown hK hO hAO ih 4000 M v1 0 0 H _ ls hl hP hD hS h
set_option maxHeartbeats 4000000 in
set_option maxRecDepth 20000 in
theorem b_ChipMapModel_flush_0 {p : Program} {l : Launch} {e : Env} {s s0 : State} {m : MethodId} {args : Array Value} {below : List Frame} {meth : Method} {c : Code} {D : va_G} {cI cZ cC cJ cA : ClassId} {P : Nat → Nat} {M' : Mm} {r' : Int32}  (hx : p.tables.exec = Jvm.exec) (hb : c.code = cX1_flush) (hml : c.maxLocals = 4) (hr : meth.sig.returnType = (some .int)) (hlk : meth.locks = false) (hgt : ∀ w ∈ GT, w.before args s = true) (hown : s.vm.findClass RX1 = some m.cls) (hK : va_K D vwCl [(cI, .int), (cZ, .boolean), (cC, .char), (cJ, .long), (cA, .array .int)] s) (hO : Old s0 s) (hAO : ∀ q, (aP P 51) q → s0.heap.size ≤ q)  : ∀ (M : Mm)  (H : Heap) (locs : List Loc) (ls : Array Slot), lv_has ls 4 [(0, .ref (P 0))] → va_P D vwCl ((wY cI cZ cC cJ cA P) M) H → va_D (aP P 51) ((wY cI cZ cC cJ cA P) M) → va_S (aP P 51) s.heap H locs → q_ChipMapModel_flush M = some (M', r') → W p l e ({ frames := 7, cells := 0, slots := 0, locals := 164 }) s m args below meth c H locs 0 0 (MQ below (gQi D (aP P 51) ((wY cI cZ cC cJ cA P) M') r') args s 0 0 (aP P 51)) (F0 m 0 ls []) := by
  intro M H locs ls hl hP hD hS h
  unfold q_ChipMapModel_flush at h
  refine lv_aload_n hx hb dX1_flush_0 rfl (lv_at hl 0 rfl) ?_
  refine lv_iconst (v := 0) hx hb dX1_flush_1 (by decide) ?_
  refine pm_put (w := (wY cI cZ cC cJ cA P)) (D := D) (ci := 1) (x := 0) (ty := .int) (C := RX1) (T := TX1) (N := 76) hx hb hgt iwX1 tyX1 tyX1_ok nmX1 hown hK hP hD hS 0 gY_0 rfl 0 (Nat.le_of_ble_eq_true rfl) (hgt _ wd_4_201) (fun _ h9 => h9) rfl (by decide +kernel) rfl rfl (Nat.le_of_ble_eq_true rfl) (sY_0_0 _) dX1_flush_2 (fun M1 eM1 H locs hP hD hS => ?_)
  have h := lt_o eM1 h
  refine lv_aload_n hx hb dX1_flush_5 rfl (lv_at hl 0 rfl) ?_
  obtain ⟨M2, r3, hq, h⟩ := cal_o h
  refine cx_v (va_runV (As := []) (rest := []) ⟨hx, hb, hml, hown, hgt⟩ (z_ChipMapModel_begin l D cI cZ cC cJ cA P s0 hAO M1 M2 r3 hq) (cwV 0 hgt (gV wd_6_130 wd_6_132 sl__ChipMapModel____ChipMapModel___begin_____V_____ChipMapModel___begin_____V__ wd_0_15 wd_6_133) rfl rfl rfl (by decide +kernel) ⟨Nat.le_of_ble_eq_true rfl, Nat.le_of_ble_eq_true rfl⟩) (prV hP hK hD hO hAO hS (va_recv hK hP (ci := 1) (q0 := 0) rfl gY_0)) rfl rfl hl.1 rfl (lv_room (Nat.le_of_ble_eq_true rfl)) dX1_flush_6 ⟨Nat.le_of_ble_eq_true rfl, Nat.le_of_ble_eq_true rfl⟩) hS (fun H locs hP hD hS => ?_)
  refine lv_iconst (v := 0) hx hb dX1_flush_9 (by decide) ?_
  refine lv_istore_n hx hb dX1_flush_10 rfl hl (Nat.le_of_ble_eq_true rfl) (lv' := [(1, .int 0), (0, .ref (P 0))]) rfl (fun ls hl => ?_)
  have hl := lv_sub hl [1, 0] (l' := [(0, .ref (P 0)), (1, .int 0)]) rfl
  exact b_ChipMapModel_flush_11 hx hb hml hr hlk hgt hown hK hO hAO 4000 M2 0 H _ ls hl hP hD hS h
set_option maxHeartbeats 4000000 in
set_option maxRecDepth 20000 in
theorem z_ChipMapModel_flush (l : Launch) (D : va_G) (cI cZ cC cJ cA : ClassId) (P : Nat → Nat) (s0 : State) (hAO : ∀ q, (aP P 51) q → s0.heap.size ≤ q) (M : Mm)  (M' : Mm) (r' : Int32) (h : q_ChipMapModel_flush M = some (M', r')) : Met l yX1_flush wsX1_flush ({ frames := 7, cells := 0, slots := 0, locals := 164 }) (va_Pc [.ref (P 0)] (gPre s0 D [(cI, .int), (cZ, .boolean), (cC, .char), (cJ, .long), (cA, .array .int)] (aP P 51) ((wY cI cZ cC cJ cA P) M))) (gQi D (aP P 51) ((wY cI cZ cC cJ cA P) M') r') 0 0 (aP P 51) := by
  refine Met.ofW (cc := cX1_flush) (maxL := 4) (ret := (some .int)) (by decide) rfl ?_
  intro p e s m args below meth c s₁ B hml hv
  obtain ⟨rfl, hP, hK, hD, hO⟩ := hv
  have hx := B.exec
  have hb := B.bytes
  have hr := B.returns
  have hlk := B.notSynchronized
  have hgt := fun w (h : w ∈ GT) => atoms_spec (ws := wsX1_flush) B.pre w (List.mem_cons_of_mem _ h)
  have hown : s.vm.findClass RX1 = some m.cls := findClass_of_methodNamed B.named
  have hS : va_S (aP P 51) s.heap s.heap [] := va_S.rf
  have hl := lv_entry ([.ref (P 0)]) (n := 4) (Nat.le_of_ble_eq_true rfl)
  rw [lg_entry_eq]
  generalize (lg_sl ([.ref (P 0)]) ++ List.replicate (4 - (lg_sl ([.ref (P 0)])).length) Slot.unset).toArray = ls at hl ⊢
  have hl : lv_has ls 4 [(0, .ref (P 0))] := hl
  exact b_ChipMapModel_flush_0 hx hb hml hr hlk hgt hown hK hO hAO M s.heap [] ls hl hP hD hS h
def q_ChipMapModel_drop  (M : Mm)  : Rs := lt' (stI M 0 (upd (M.1 0) 0 0)) fun M1 => lt' (M1.1 0 52) fun x2 => lt' (stI M1 0 (upd (M1.1 0) 52 0)) fun M3 => some (M3, x2)
set_option maxHeartbeats 4000000 in
set_option maxRecDepth 20000 in
theorem b_ChipMapModel_drop_0 {p : Program} {l : Launch} {e : Env} {s s0 : State} {m : MethodId} {args : Array Value} {below : List Frame} {meth : Method} {c : Code} {D : va_G} {cI cZ cC cJ cA : ClassId} {P : Nat → Nat} {M' : Mm} {r' : Int32}  (hx : p.tables.exec = Jvm.exec) (hb : c.code = cX1_drop) (hml : c.maxLocals = 2) (hr : meth.sig.returnType = (some .int)) (hlk : meth.locks = false) (hgt : ∀ w ∈ GT, w.before args s = true) (hown : s.vm.findClass RX1 = some m.cls) (hK : va_K D vwCl [(cI, .int), (cZ, .boolean), (cC, .char), (cJ, .long), (cA, .array .int)] s) (hO : Old s0 s) (hAO : ∀ q, (aP P 51) q → s0.heap.size ≤ q)  : ∀ (M : Mm)  (H : Heap) (locs : List Loc) (ls : Array Slot), lv_has ls 2 [(0, .ref (P 0))] → va_P D vwCl ((wY cI cZ cC cJ cA P) M) H → va_D (aP P 51) ((wY cI cZ cC cJ cA P) M) → va_S (aP P 51) s.heap H locs → q_ChipMapModel_drop M = some (M', r') → W p l e ({ frames := 0, cells := 0, slots := 0, locals := 0 }) s m args below meth c H locs 0 0 (MQ below (gQi D (aP P 51) ((wY cI cZ cC cJ cA P) M') r') args s 0 0 (aP P 51)) (F0 m 0 ls []) := by
  intro M H locs ls hl hP hD hS h
  unfold q_ChipMapModel_drop at h
  refine lv_aload_n hx hb dX1_drop_0 rfl (lv_at hl 0 rfl) ?_
  refine lv_iconst (v := 0) hx hb dX1_drop_1 (by decide) ?_
  refine pm_put (w := (wY cI cZ cC cJ cA P)) (D := D) (ci := 1) (x := 0) (ty := .int) (C := RX1) (T := TX1) (N := 76) hx hb hgt iwX1 tyX1 tyX1_ok nmX1 hown hK hP hD hS 0 gY_0 rfl 0 (Nat.le_of_ble_eq_true rfl) (hgt _ wd_4_201) (fun _ h9 => h9) rfl (by decide +kernel) rfl rfl (Nat.le_of_ble_eq_true rfl) (sY_0_0 _) dX1_drop_2 (fun M1 eM1 H locs hP hD hS => ?_)
  have h := lt_o eM1 h
  refine lv_aload_n hx hb dX1_drop_5 rfl (lv_at hl 0 rfl) ?_
  refine va_get (D := D) (ci := 1) (v := .int (M1.1 0 52)) (C := RX1) (T := TX1) (N := 76) hx hb hgt iwX1 hown hK hP 0 gY_0 rfl 52 (Nat.le_of_ble_eq_true rfl) (hgt _ wd_5_13) (fun _ h9 => h9) rfl dX1_drop_6 ?_
  refine lv_topi (fun x2 ex2 => ?_)
  have h := lt_o ex2 h
  refine lv_istore_n hx hb dX1_drop_9 rfl hl (Nat.le_of_ble_eq_true rfl) (lv' := [(1, .int x2), (0, .ref (P 0))]) rfl (fun ls hl => ?_)
  refine lv_aload_n hx hb dX1_drop_10 rfl (lv_at hl 1 rfl) ?_
  refine lv_iconst (v := 0) hx hb dX1_drop_11 (by decide) ?_
  refine pm_put (w := (wY cI cZ cC cJ cA P)) (D := D) (ci := 1) (x := 0) (ty := .int) (C := RX1) (T := TX1) (N := 76) hx hb hgt iwX1 tyX1 tyX1_ok nmX1 hown hK hP hD hS 0 gY_0 rfl 52 (Nat.le_of_ble_eq_true rfl) (hgt _ wd_5_13) (fun _ h9 => h9) rfl (by decide +kernel) rfl rfl (Nat.le_of_ble_eq_true rfl) (sY_0_52 _) dX1_drop_12 (fun M3 eM3 H locs hP hD hS => ?_)
  have h := lt_o eM3 h
  refine lv_iload_n hx hb dX1_drop_15 rfl (lv_at hl 0 rfl) ?_
  exact rt_i (w := (wY cI cZ cC cJ cA P)) hx hb hr hlk hP hD hS h dX1_drop_16
set_option maxHeartbeats 4000000 in
set_option maxRecDepth 20000 in
theorem z_ChipMapModel_drop (l : Launch) (D : va_G) (cI cZ cC cJ cA : ClassId) (P : Nat → Nat) (s0 : State) (hAO : ∀ q, (aP P 51) q → s0.heap.size ≤ q) (M : Mm)  (M' : Mm) (r' : Int32) (h : q_ChipMapModel_drop M = some (M', r')) : Met l yX1_drop wsX1_drop ({ frames := 0, cells := 0, slots := 0, locals := 0 }) (va_Pc [.ref (P 0)] (gPre s0 D [(cI, .int), (cZ, .boolean), (cC, .char), (cJ, .long), (cA, .array .int)] (aP P 51) ((wY cI cZ cC cJ cA P) M))) (gQi D (aP P 51) ((wY cI cZ cC cJ cA P) M') r') 0 0 (aP P 51) := by
  refine Met.ofW (cc := cX1_drop) (maxL := 2) (ret := (some .int)) (by decide) rfl ?_
  intro p e s m args below meth c s₁ B hml hv
  obtain ⟨rfl, hP, hK, hD, hO⟩ := hv
  have hx := B.exec
  have hb := B.bytes
  have hr := B.returns
  have hlk := B.notSynchronized
  have hgt := fun w (h : w ∈ GT) => atoms_spec (ws := wsX1_drop) B.pre w (List.mem_cons_of_mem _ h)
  have hown : s.vm.findClass RX1 = some m.cls := findClass_of_methodNamed B.named
  have hS : va_S (aP P 51) s.heap s.heap [] := va_S.rf
  have hl := lv_entry ([.ref (P 0)]) (n := 2) (Nat.le_of_ble_eq_true rfl)
  rw [lg_entry_eq]
  generalize (lg_sl ([.ref (P 0)]) ++ List.replicate (2 - (lg_sl ([.ref (P 0)])).length) Slot.unset).toArray = ls at hl ⊢
  have hl : lv_has ls 2 [(0, .ref (P 0))] := hl
  exact b_ChipMapModel_drop_0 hx hb hml hr hlk hgt hown hK hO hAO M s.heap [] ls hl hP hD hS h
def q_ChipMapModel_trace_1  (M : Mm) (a1 : Int32) (a2 : Int32) : Rs := lt' (stI M 0 (upd (M.1 0) 0 0)) fun M1 => if a1 < 0 then (some (M1, (-1))) else (if 64 ≤ a1 then (some (M1, (-1))) else (if (M1.1 0 47) ≤ a1 then (some (M1, (-1))) else (if a2 < 0 then (some (M1, (-1))) else (if a2 ≤ 2 then (lt' ((((M1.1 0 47) - 1) - a1) - (((M1.1 0 47) - 1) - a1) / 64 * 64) fun x2 => if a2 = 0 then (ix x2 64 <| some (M1, (M1.1 37 (x2 : Int32).toNatClampNeg))) else (if a2 = 1 then (ix x2 64 <| some (M1, (M1.1 38 (x2 : Int32).toNatClampNeg))) else (ix x2 64 <| some (M1, (M1.1 39 (x2 : Int32).toNatClampNeg))))) else (some (M1, (-1)))))))
set_option maxHeartbeats 4000000 in
set_option maxRecDepth 20000 in
theorem b_ChipMapModel_trace_1_0 {p : Program} {l : Launch} {e : Env} {s s0 : State} {m : MethodId} {args : Array Value} {below : List Frame} {meth : Method} {c : Code} {D : va_G} {cI cZ cC cJ cA : ClassId} {P : Nat → Nat} {M' : Mm} {r' : Int32}  (hx : p.tables.exec = Jvm.exec) (hb : c.code = cX1_trace_III) (hml : c.maxLocals = 4) (hr : meth.sig.returnType = (some .int)) (hlk : meth.locks = false) (hgt : ∀ w ∈ GT, w.before args s = true) (hown : s.vm.findClass RX1 = some m.cls) (hK : va_K D vwCl [(cI, .int), (cZ, .boolean), (cC, .char), (cJ, .long), (cA, .array .int)] s) (hO : Old s0 s) (hAO : ∀ q, (aP P 51) q → s0.heap.size ≤ q)  : ∀ (M : Mm) (a1 : Int32) (a2 : Int32) (H : Heap) (locs : List Loc) (ls : Array Slot), lv_has ls 4 [(0, .ref (P 0)), (1, .int a1), (2, .int a2)] → va_P D vwCl ((wY cI cZ cC cJ cA P) M) H → va_D (aP P 51) ((wY cI cZ cC cJ cA P) M) → va_S (aP P 51) s.heap H locs → q_ChipMapModel_trace_1 M a1 a2 = some (M', r') → W p l e ({ frames := 0, cells := 0, slots := 0, locals := 0 }) s m args below meth c H locs 0 0 (MQ below (gQi D (aP P 51) ((wY cI cZ cC cJ cA P) M') r') args s 0 0 (aP P 51)) (F0 m 0 ls []) := by
  intro M a1 a2 H locs ls hl hP hD hS h
  unfold q_ChipMapModel_trace_1 at h
  refine lv_aload_n hx hb dX1_trace_III_0 rfl (lv_at hl 0 rfl) ?_
  refine lv_iconst (v := 0) hx hb dX1_trace_III_1 (by decide) ?_
  refine pm_put (w := (wY cI cZ cC cJ cA P)) (D := D) (ci := 1) (x := 0) (ty := .int) (C := RX1) (T := TX1) (N := 76) hx hb hgt iwX1 tyX1 tyX1_ok nmX1 hown hK hP hD hS 0 gY_0 rfl 0 (Nat.le_of_ble_eq_true rfl) (hgt _ wd_4_201) (fun _ h9 => h9) rfl (by decide +kernel) rfl rfl (Nat.le_of_ble_eq_true rfl) (sY_0_0 _) dX1_trace_III_2 (fun M1 eM1 H locs hP hD hS => ?_)
  have h := lt_o eM1 h
  refine lv_iload_n hx hb dX1_trace_III_5 rfl (lv_at hl 1 rfl) ?_
  refine lv_if_lt hx hb dX1_trace_III_6 (tgt := 32) rfl (fun hc => ?_) (fun hc => ?_)
  · have h := br_T hc h
    refine lv_iconst (v := (-1)) hx hb dX1_trace_III_32 (by decide) ?_
    exact rt_i (w := (wY cI cZ cC cJ cA P)) hx hb hr hlk hP hD hS h dX1_trace_III_33
  · have h := br_F hc h
    refine lv_iload_n hx hb dX1_trace_III_9 rfl (lv_at hl 1 rfl) ?_
    refine lv_bipush (v := 64) hx hb dX1_trace_III_10 (by decide) ?_
    refine lv_icmp_ge hx hb dX1_trace_III_12 (tgt := 32) rfl (fun hc => ?_) (fun hc => ?_)
    · have h := br_T hc h
      refine lv_iconst (v := (-1)) hx hb dX1_trace_III_32 (by decide) ?_
      exact rt_i (w := (wY cI cZ cC cJ cA P)) hx hb hr hlk hP hD hS h dX1_trace_III_33
    · have h := br_F hc h
      refine lv_iload_n hx hb dX1_trace_III_15 rfl (lv_at hl 1 rfl) ?_
      refine lv_aload_n hx hb dX1_trace_III_16 rfl (lv_at hl 0 rfl) ?_
      refine va_get (D := D) (ci := 1) (v := .int (M1.1 0 47)) (C := RX1) (T := TX1) (N := 76) hx hb hgt iwX1 hown hK hP 0 gY_0 rfl 47 (Nat.le_of_ble_eq_true rfl) (hgt _ wd_5_8) (fun _ h9 => h9) rfl dX1_trace_III_17 ?_
      refine lv_icmp_ge hx hb dX1_trace_III_20 (tgt := 32) rfl (fun hc => ?_) (fun hc => ?_)
      · have h := br_T hc h
        refine lv_iconst (v := (-1)) hx hb dX1_trace_III_32 (by decide) ?_
        exact rt_i (w := (wY cI cZ cC cJ cA P)) hx hb hr hlk hP hD hS h dX1_trace_III_33
      · have h := br_F hc h
        refine lv_iload_n hx hb dX1_trace_III_23 rfl (lv_at hl 2 rfl) ?_
        refine lv_if_lt hx hb dX1_trace_III_24 (tgt := 32) rfl (fun hc => ?_) (fun hc => ?_)
        · have h := br_T hc h
          refine lv_iconst (v := (-1)) hx hb dX1_trace_III_32 (by decide) ?_
          exact rt_i (w := (wY cI cZ cC cJ cA P)) hx hb hr hlk hP hD hS h dX1_trace_III_33
        · have h := br_F hc h
          refine lv_iload_n hx hb dX1_trace_III_27 rfl (lv_at hl 2 rfl) ?_
          refine lv_iconst (v := 2) hx hb dX1_trace_III_28 (by decide) ?_
          refine lv_icmp_le hx hb dX1_trace_III_29 (tgt := 34) rfl (fun hc => ?_) (fun hc => ?_)
          · have h := br_T hc h
            refine lv_aload_n hx hb dX1_trace_III_34 rfl (lv_at hl 0 rfl) ?_
            refine va_get (D := D) (ci := 1) (v := .int (M1.1 0 47)) (C := RX1) (T := TX1) (N := 76) hx hb hgt iwX1 hown hK hP 0 gY_0 rfl 47 (Nat.le_of_ble_eq_true rfl) (hgt _ wd_5_8) (fun _ h9 => h9) rfl dX1_trace_III_35 ?_
            refine lv_iconst (v := 1) hx hb dX1_trace_III_38 (by decide) ?_
            refine lv_isub hx hb dX1_trace_III_39 ?_
            refine lv_iload_n hx hb dX1_trace_III_40 rfl (lv_at hl 1 rfl) ?_
            refine lv_isub hx hb dX1_trace_III_41 ?_
            refine lv_bipush (v := 64) hx hb dX1_trace_III_42 (by decide) ?_
            refine lv_irem hx hb dX1_trace_III_44 (by decide) ?_
            refine lv_topi (fun x2 ex2 => ?_)
            have h := lt_o ex2 h
            refine lv_istore_n hx hb dX1_trace_III_45 rfl hl (Nat.le_of_ble_eq_true rfl) (lv' := [(3, .int x2), (0, .ref (P 0)), (1, .int a1), (2, .int a2)]) rfl (fun ls hl => ?_)
            refine lv_iload_n hx hb dX1_trace_III_46 rfl (lv_at hl 3 rfl) ?_
            refine lv_if_ne hx hb dX1_trace_III_47 (tgt := 59) rfl (fun hc => ?_) (fun hc => ?_)
            · have h := br_F hc h
              refine lv_iload_n hx hb dX1_trace_III_59 rfl (lv_at hl 3 rfl) ?_
              refine lv_iconst (v := 1) hx hb dX1_trace_III_60 (by decide) ?_
              refine lv_icmp_ne hx hb dX1_trace_III_61 (tgt := 73) rfl (fun hc => ?_) (fun hc => ?_)
              · have h := br_F hc h
                refine lv_aload_n hx hb dX1_trace_III_73 rfl (lv_at hl 1 rfl) ?_
                refine va_get (D := D) (ci := 1) (v := .ref (P 39)) (C := RX1) (T := TX1) (N := 76) hx hb hgt iwX1 hown hK hP 0 gY_0 rfl 51 (Nat.le_of_ble_eq_true rfl) (hgt _ wd_5_12) (fun _ h9 => h9) rfl dX1_trace_III_74 ?_
                refine lv_iload_n hx hb dX1_trace_III_77 rfl (lv_at hl 0 rfl) ?_
                refine va_iald hx hb hK hP 39 0 gY_39 rfl (ix_l h) dX1_trace_III_78 ?_
                have h := ix_r h
                exact rt_i (w := (wY cI cZ cC cJ cA P)) hx hb hr hlk hP hD hS h dX1_trace_III_79
              · have h := br_T hc h
                refine lv_aload_n hx hb dX1_trace_III_64 rfl (lv_at hl 1 rfl) ?_
                refine va_get (D := D) (ci := 1) (v := .ref (P 38)) (C := RX1) (T := TX1) (N := 76) hx hb hgt iwX1 hown hK hP 0 gY_0 rfl 50 (Nat.le_of_ble_eq_true rfl) (hgt _ wd_5_11) (fun _ h9 => h9) rfl dX1_trace_III_65 ?_
                refine lv_iload_n hx hb dX1_trace_III_68 rfl (lv_at hl 0 rfl) ?_
                refine va_iald hx hb hK hP 38 0 gY_38 rfl (ix_l h) dX1_trace_III_69 ?_
                have h := ix_r h
                refine lv_goto hx hb dX1_trace_III_70 (tgt := 79) rfl ?_
                exact rt_i (w := (wY cI cZ cC cJ cA P)) hx hb hr hlk hP hD hS h dX1_trace_III_79
            · have h := br_T hc h
              refine lv_aload_n hx hb dX1_trace_III_50 rfl (lv_at hl 1 rfl) ?_
              refine va_get (D := D) (ci := 1) (v := .ref (P 37)) (C := RX1) (T := TX1) (N := 76) hx hb hgt iwX1 hown hK hP 0 gY_0 rfl 49 (Nat.le_of_ble_eq_true rfl) (hgt _ wd_5_10) (fun _ h9 => h9) rfl dX1_trace_III_51 ?_
              refine lv_iload_n hx hb dX1_trace_III_54 rfl (lv_at hl 0 rfl) ?_
              refine va_iald hx hb hK hP 37 0 gY_37 rfl (ix_l h) dX1_trace_III_55 ?_
              have h := ix_r h
              refine lv_goto hx hb dX1_trace_III_56 (tgt := 79) rfl ?_
              exact rt_i (w := (wY cI cZ cC cJ cA P)) hx hb hr hlk hP hD hS h dX1_trace_III_79
          · have h := br_F hc h
            refine lv_iconst (v := (-1)) hx hb dX1_trace_III_32 (by decide) ?_
            exact rt_i (w := (wY cI cZ cC cJ cA P)) hx hb hr hlk hP hD hS h dX1_trace_III_33
set_option maxHeartbeats 4000000 in
set_option maxRecDepth 20000 in
theorem z_ChipMapModel_trace_1 (l : Launch) (D : va_G) (cI cZ cC cJ cA : ClassId) (P : Nat → Nat) (s0 : State) (hAO : ∀ q, (aP P 51) q → s0.heap.size ≤ q) (M : Mm) (a1 : Int32) (a2 : Int32) (M' : Mm) (r' : Int32) (h : q_ChipMapModel_trace_1 M a1 a2 = some (M', r')) : Met l yX1_trace_III wsX1_trace_III ({ frames := 0, cells := 0, slots := 0, locals := 0 }) (va_Pc [.ref (P 0), .int a1, .int a2] (gPre s0 D [(cI, .int), (cZ, .boolean), (cC, .char), (cJ, .long), (cA, .array .int)] (aP P 51) ((wY cI cZ cC cJ cA P) M))) (gQi D (aP P 51) ((wY cI cZ cC cJ cA P) M') r') 0 0 (aP P 51) := by
  refine Met.ofW (cc := cX1_trace_III) (maxL := 4) (ret := (some .int)) (by decide) rfl ?_
  intro p e s m args below meth c s₁ B hml hv
  obtain ⟨rfl, hP, hK, hD, hO⟩ := hv
  have hx := B.exec
  have hb := B.bytes
  have hr := B.returns
  have hlk := B.notSynchronized
  have hgt := fun w (h : w ∈ GT) => atoms_spec (ws := wsX1_trace_III) B.pre w (List.mem_cons_of_mem _ h)
  have hown : s.vm.findClass RX1 = some m.cls := findClass_of_methodNamed B.named
  have hS : va_S (aP P 51) s.heap s.heap [] := va_S.rf
  have hl := lv_entry ([.ref (P 0), .int a1, .int a2]) (n := 4) (Nat.le_of_ble_eq_true rfl)
  rw [lg_entry_eq]
  generalize (lg_sl ([.ref (P 0), .int a1, .int a2]) ++ List.replicate (4 - (lg_sl ([.ref (P 0), .int a1, .int a2])).length) Slot.unset).toArray = ls at hl ⊢
  have hl : lv_has ls 4 [(0, .ref (P 0)), (1, .int a1), (2, .int a2)] := hl
  exact b_ChipMapModel_trace_1_0 hx hb hml hr hlk hgt hown hK hO hAO M a1 a2 s.heap [] ls hl hP hD hS h
def q_ChipMapModel_step_73  (M : Mm) (v1 : Int32) (v2 : Int32) (v3 : Int32) : Rs := ix (M.1 0 59) 40 <| lt' (stI M 42 (upd (M.1 42) ((M.1 0 59) : Int32).toNatClampNeg v1)) fun M1 => ix (M1.1 0 59) 40 <| lt' (stI M1 43 (upd (M1.1 43) ((M1.1 0 59) : Int32).toNatClampNeg v2)) fun M2 => ix (M2.1 0 59) 40 <| lt' (stI M2 44 (upd (M2.1 44) ((M2.1 0 59) : Int32).toNatClampNeg v3)) fun M3 => lt' (stI M3 0 (upd (M3.1 0) 59 ((M3.1 0 59) + 1))) fun M4 => some (M4, ((M4.1 0 59) - 1))
def q_ChipMapModel_step_56  (M : Mm) (v1 : Int32) (v2 : Int32) (v3 : Int32) : Rs := if v1 = 2 then (if v3 < 0 then (some (M, (-1))) else (if v3 ≤ 40 then (q_ChipMapModel_step_73 M v1 v2 v3) else (some (M, (-1))))) else (q_ChipMapModel_step_73 M v1 v2 v3)
def q_ChipMapModel_step_43  (M : Mm) (v1 : Int32) (v2 : Int32) (v3 : Int32) : Rs := if v1 = 1 then (cal (q_ChipMapModel_isFetch M v2) fun M1 r2 => if r2 = 0 then (some (M1, (-1))) else (q_ChipMapModel_step_56 M1 v1 v2 v3)) else (q_ChipMapModel_step_56 M v1 v2 v3)
def q_ChipMapModel_step  (M : Mm) (a1 : Int32) (a2 : Int32) (a3 : Int32) : Rs := lt' (stI M 0 (upd (M.1 0) 0 0)) fun M1 => if (M1.1 0 27) = 0 then (some (M1, (-1))) else (if (M1.1 0 59) = 40 then (some (M1, (-1))) else (if a1 < 0 then (some (M1, (-1))) else (if 3 < a1 then (some (M1, (-1))) else (if a1 = 0 then (cal (q_ChipMapModel_isPut M1 a2 a3) fun M2 r3 => if r3 = 0 then (some (M2, (-1))) else (q_ChipMapModel_step_43 M2 a1 a2 a3)) else (q_ChipMapModel_step_43 M1 a1 a2 a3)))))
set_option maxHeartbeats 4000000 in
set_option maxRecDepth 20000 in
theorem b_ChipMapModel_step_73 {p : Program} {l : Launch} {e : Env} {s s0 : State} {m : MethodId} {args : Array Value} {below : List Frame} {meth : Method} {c : Code} {D : va_G} {cI cZ cC cJ cA : ClassId} {P : Nat → Nat} {M' : Mm} {r' : Int32}  (hx : p.tables.exec = Jvm.exec) (hb : c.code = cX1_step) (hml : c.maxLocals = 4) (hr : meth.sig.returnType = (some .int)) (hlk : meth.locks = false) (hgt : ∀ w ∈ GT, w.before args s = true) (hown : s.vm.findClass RX1 = some m.cls) (hK : va_K D vwCl [(cI, .int), (cZ, .boolean), (cC, .char), (cJ, .long), (cA, .array .int)] s) (hO : Old s0 s) (hAO : ∀ q, (aP P 51) q → s0.heap.size ≤ q)  : ∀ (M : Mm) (v1 : Int32) (v2 : Int32) (v3 : Int32) (H : Heap) (locs : List Loc) (ls : Array Slot), lv_has ls 4 [(0, .ref (P 0)), (1, .int v1), (2, .int v2), (3, .int v3)] → va_P D vwCl ((wY cI cZ cC cJ cA P) M) H → va_D (aP P 51) ((wY cI cZ cC cJ cA P) M) → va_S (aP P 51) s.heap H locs → q_ChipMapModel_step_73 M v1 v2 v3 = some (M', r') → W p l e ({ frames := 2, cells := 0, slots := 0, locals := 44 }) s m args below meth c H locs 0 0 (MQ below (gQi D (aP P 51) ((wY cI cZ cC cJ cA P) M') r') args s 0 0 (aP P 51)) (F0 m 73 ls []) := by
  intro M v1 v2 v3 H locs ls hl hP hD hS h
  unfold q_ChipMapModel_step_73 at h
  refine lv_aload_n hx hb dX1_step_73 rfl (lv_at hl 0 rfl) ?_
  refine va_get (D := D) (ci := 1) (v := .ref (P 42)) (C := RX1) (T := TX1) (N := 76) hx hb hgt iwX1 hown hK hP 0 gY_0 rfl 60 (Nat.le_of_ble_eq_true rfl) (hgt _ wd_5_21) (fun _ h9 => h9) rfl dX1_step_74 ?_
  refine lv_aload_n hx hb dX1_step_77 rfl (lv_at hl 0 rfl) ?_
  refine va_get (D := D) (ci := 1) (v := .int (M.1 0 59)) (C := RX1) (T := TX1) (N := 76) hx hb hgt iwX1 hown hK hP 0 gY_0 rfl 59 (Nat.le_of_ble_eq_true rfl) (hgt _ wd_5_20) (fun _ h9 => h9) rfl dX1_step_78 ?_
  refine lv_iload_n hx hb dX1_step_81 rfl (lv_at hl 1 rfl) ?_
  refine pm_iast (w := (wY cI cZ cC cJ cA P)) hx hb hK hP hD hS 42 0 gY_42 rfl sY_42 (ix_l h) dX1_step_82 (fun M1 eM1 H locs hP hD hS => ?_)
  have h := ix_r h
  have h := lt_o eM1 h
  refine lv_aload_n hx hb dX1_step_83 rfl (lv_at hl 0 rfl) ?_
  refine va_get (D := D) (ci := 1) (v := .ref (P 43)) (C := RX1) (T := TX1) (N := 76) hx hb hgt iwX1 hown hK hP 0 gY_0 rfl 61 (Nat.le_of_ble_eq_true rfl) (hgt _ wd_5_22) (fun _ h9 => h9) rfl dX1_step_84 ?_
  refine lv_aload_n hx hb dX1_step_87 rfl (lv_at hl 0 rfl) ?_
  refine va_get (D := D) (ci := 1) (v := .int (M1.1 0 59)) (C := RX1) (T := TX1) (N := 76) hx hb hgt iwX1 hown hK hP 0 gY_0 rfl 59 (Nat.le_of_ble_eq_true rfl) (hgt _ wd_5_20) (fun _ h9 => h9) rfl dX1_step_88 ?_
  refine lv_iload_n hx hb dX1_step_91 rfl (lv_at hl 2 rfl) ?_
  refine pm_iast (w := (wY cI cZ cC cJ cA P)) hx hb hK hP hD hS 43 0 gY_43 rfl sY_43 (ix_l h) dX1_step_92 (fun M2 eM2 H locs hP hD hS => ?_)
  have h := ix_r h
  have h := lt_o eM2 h
  refine lv_aload_n hx hb dX1_step_93 rfl (lv_at hl 0 rfl) ?_
  refine va_get (D := D) (ci := 1) (v := .ref (P 44)) (C := RX1) (T := TX1) (N := 76) hx hb hgt iwX1 hown hK hP 0 gY_0 rfl 62 (Nat.le_of_ble_eq_true rfl) (hgt _ wd_5_23) (fun _ h9 => h9) rfl dX1_step_94 ?_
  refine lv_aload_n hx hb dX1_step_97 rfl (lv_at hl 0 rfl) ?_
  refine va_get (D := D) (ci := 1) (v := .int (M2.1 0 59)) (C := RX1) (T := TX1) (N := 76) hx hb hgt iwX1 hown hK hP 0 gY_0 rfl 59 (Nat.le_of_ble_eq_true rfl) (hgt _ wd_5_20) (fun _ h9 => h9) rfl dX1_step_98 ?_
  refine lv_iload_n hx hb dX1_step_101 rfl (lv_at hl 3 rfl) ?_
  refine pm_iast (w := (wY cI cZ cC cJ cA P)) hx hb hK hP hD hS 44 0 gY_44 rfl sY_44 (ix_l h) dX1_step_102 (fun M3 eM3 H locs hP hD hS => ?_)
  have h := ix_r h
  have h := lt_o eM3 h
  refine lv_aload_n hx hb dX1_step_103 rfl (lv_at hl 0 rfl) ?_
  refine lv_dup hx hb dX1_step_104 rfl ?_
  refine va_get (D := D) (ci := 1) (v := .int (M3.1 0 59)) (C := RX1) (T := TX1) (N := 76) hx hb hgt iwX1 hown hK hP 0 gY_0 rfl 59 (Nat.le_of_ble_eq_true rfl) (hgt _ wd_5_20) (fun _ h9 => h9) rfl dX1_step_105 ?_
  refine lv_iconst (v := 1) hx hb dX1_step_108 (by decide) ?_
  refine lv_iadd hx hb dX1_step_109 ?_
  refine pm_put (w := (wY cI cZ cC cJ cA P)) (D := D) (ci := 1) (x := ((M3.1 0 59) + 1)) (ty := .int) (C := RX1) (T := TX1) (N := 76) hx hb hgt iwX1 tyX1 tyX1_ok nmX1 hown hK hP hD hS 0 gY_0 rfl 59 (Nat.le_of_ble_eq_true rfl) (hgt _ wd_5_20) (fun _ h9 => h9) rfl (by decide +kernel) rfl rfl (Nat.le_of_ble_eq_true rfl) (sY_0_59 _) dX1_step_110 (fun M4 eM4 H locs hP hD hS => ?_)
  have h := lt_o eM4 h
  refine lv_aload_n hx hb dX1_step_113 rfl (lv_at hl 0 rfl) ?_
  refine va_get (D := D) (ci := 1) (v := .int (M4.1 0 59)) (C := RX1) (T := TX1) (N := 76) hx hb hgt iwX1 hown hK hP 0 gY_0 rfl 59 (Nat.le_of_ble_eq_true rfl) (hgt _ wd_5_20) (fun _ h9 => h9) rfl dX1_step_114 ?_
  refine lv_iconst (v := 1) hx hb dX1_step_117 (by decide) ?_
  refine lv_isub hx hb dX1_step_118 ?_
  exact rt_i (w := (wY cI cZ cC cJ cA P)) hx hb hr hlk hP hD hS h dX1_step_119
set_option maxHeartbeats 4000000 in
set_option maxRecDepth 20000 in
theorem b_ChipMapModel_step_56 {p : Program} {l : Launch} {e : Env} {s s0 : State} {m : MethodId} {args : Array Value} {below : List Frame} {meth : Method} {c : Code} {D : va_G} {cI cZ cC cJ cA : ClassId} {P : Nat → Nat} {M' : Mm} {r' : Int32}  (hx : p.tables.exec = Jvm.exec) (hb : c.code = cX1_step) (hml : c.maxLocals = 4) (hr : meth.sig.returnType = (some .int)) (hlk : meth.locks = false) (hgt : ∀ w ∈ GT, w.before args s = true) (hown : s.vm.findClass RX1 = some m.cls) (hK : va_K D vwCl [(cI, .int), (cZ, .boolean), (cC, .char), (cJ, .long), (cA, .array .int)] s) (hO : Old s0 s) (hAO : ∀ q, (aP P 51) q → s0.heap.size ≤ q)  : ∀ (M : Mm) (v1 : Int32) (v2 : Int32) (v3 : Int32) (H : Heap) (locs : List Loc) (ls : Array Slot), lv_has ls 4 [(0, .ref (P 0)), (1, .int v1), (2, .int v2), (3, .int v3)] → va_P D vwCl ((wY cI cZ cC cJ cA P) M) H → va_D (aP P 51) ((wY cI cZ cC cJ cA P) M) → va_S (aP P 51) s.heap H locs → q_ChipMapModel_step_56 M v1 v2 v3 = some (M', r') → W p l e ({ frames := 2, cells := 0, slots := 0, locals := 44 }) s m args below meth c H locs 0 0 (MQ below (gQi D (aP P 51) ((wY cI cZ cC cJ cA P) M') r') args s 0 0 (aP P 51)) (F0 m 56 ls []) := by
  intro M v1 v2 v3 H locs ls hl hP hD hS h
  unfold q_ChipMapModel_step_56 at h
  refine lv_iload_n hx hb dX1_step_56 rfl (lv_at hl 1 rfl) ?_
  refine lv_iconst (v := 2) hx hb dX1_step_57 (by decide) ?_
  refine lv_icmp_ne hx hb dX1_step_58 (tgt := 73) rfl (fun hc => ?_) (fun hc => ?_)
  · have h := br_F hc h
    have hl := lv_sub hl [0, 1, 2, 3] (l' := [(0, .ref (P 0)), (1, .int v1), (2, .int v2), (3, .int v3)]) rfl
    exact b_ChipMapModel_step_73 hx hb hml hr hlk hgt hown hK hO hAO M v1 v2 v3 H _ ls hl hP hD hS h
  · have h := br_T hc h
    refine lv_iload_n hx hb dX1_step_61 rfl (lv_at hl 3 rfl) ?_
    refine lv_if_lt hx hb dX1_step_62 (tgt := 71) rfl (fun hc => ?_) (fun hc => ?_)
    · have h := br_T hc h
      refine lv_iconst (v := (-1)) hx hb dX1_step_71 (by decide) ?_
      exact rt_i (w := (wY cI cZ cC cJ cA P)) hx hb hr hlk hP hD hS h dX1_step_72
    · have h := br_F hc h
      refine lv_iload_n hx hb dX1_step_65 rfl (lv_at hl 3 rfl) ?_
      refine lv_bipush (v := 40) hx hb dX1_step_66 (by decide) ?_
      refine lv_icmp_le hx hb dX1_step_68 (tgt := 73) rfl (fun hc => ?_) (fun hc => ?_)
      · have h := br_T hc h
        have hl := lv_sub hl [0, 1, 2, 3] (l' := [(0, .ref (P 0)), (1, .int v1), (2, .int v2), (3, .int v3)]) rfl
        exact b_ChipMapModel_step_73 hx hb hml hr hlk hgt hown hK hO hAO M v1 v2 v3 H _ ls hl hP hD hS h
      · have h := br_F hc h
        refine lv_iconst (v := (-1)) hx hb dX1_step_71 (by decide) ?_
        exact rt_i (w := (wY cI cZ cC cJ cA P)) hx hb hr hlk hP hD hS h dX1_step_72
set_option maxHeartbeats 4000000 in
set_option maxRecDepth 20000 in
theorem b_ChipMapModel_step_43 {p : Program} {l : Launch} {e : Env} {s s0 : State} {m : MethodId} {args : Array Value} {below : List Frame} {meth : Method} {c : Code} {D : va_G} {cI cZ cC cJ cA : ClassId} {P : Nat → Nat} {M' : Mm} {r' : Int32}  (hx : p.tables.exec = Jvm.exec) (hb : c.code = cX1_step) (hml : c.maxLocals = 4) (hr : meth.sig.returnType = (some .int)) (hlk : meth.locks = false) (hgt : ∀ w ∈ GT, w.before args s = true) (hown : s.vm.findClass RX1 = some m.cls) (hK : va_K D vwCl [(cI, .int), (cZ, .boolean), (cC, .char), (cJ, .long), (cA, .array .int)] s) (hO : Old s0 s) (hAO : ∀ q, (aP P 51) q → s0.heap.size ≤ q)  : ∀ (M : Mm) (v1 : Int32) (v2 : Int32) (v3 : Int32) (H : Heap) (locs : List Loc) (ls : Array Slot), lv_has ls 4 [(0, .ref (P 0)), (1, .int v1), (2, .int v2), (3, .int v3)] → va_P D vwCl ((wY cI cZ cC cJ cA P) M) H → va_D (aP P 51) ((wY cI cZ cC cJ cA P) M) → va_S (aP P 51) s.heap H locs → q_ChipMapModel_step_43 M v1 v2 v3 = some (M', r') → W p l e ({ frames := 2, cells := 0, slots := 0, locals := 44 }) s m args below meth c H locs 0 0 (MQ below (gQi D (aP P 51) ((wY cI cZ cC cJ cA P) M') r') args s 0 0 (aP P 51)) (F0 m 43 ls []) := by
  intro M v1 v2 v3 H locs ls hl hP hD hS h
  unfold q_ChipMapModel_step_43 at h
  refine lv_iload_n hx hb dX1_step_43 rfl (lv_at hl 1 rfl) ?_
  refine lv_iconst (v := 1) hx hb dX1_step_44 (by decide) ?_
  refine lv_icmp_ne hx hb dX1_step_45 (tgt := 56) rfl (fun hc => ?_) (fun hc => ?_)
  · have h := br_F hc h
    have hl := lv_sub hl [0, 1, 2, 3] (l' := [(0, .ref (P 0)), (1, .int v1), (2, .int v2), (3, .int v3)]) rfl
    exact b_ChipMapModel_step_56 hx hb hml hr hlk hgt hown hK hO hAO M v1 v2 v3 H _ ls hl hP hD hS h
  · have h := br_T hc h
    refine lv_aload_n hx hb dX1_step_48 rfl (lv_at hl 0 rfl) ?_
    refine lv_iload_n hx hb dX1_step_49 rfl (lv_at hl 2 rfl) ?_
    obtain ⟨M1, r2, hq, h⟩ := cal_o h
    refine cx_i (va_runV (As := [.int v2]) (rest := []) ⟨hx, hb, hml, hown, hgt⟩ (z_ChipMapModel_isFetch l D cI cZ cC cJ cA P s0 hAO M v2 M1 r2 hq) (cwV 1 hgt (gV wd_6_166 wd_6_168 sl__ChipMapModel____ChipMapModel___isFetch____I_Z_____ChipMapModel___isFetch____I_Z__ wd_0_15 wd_6_169) rfl rfl rfl (by decide +kernel) ⟨Nat.le_of_ble_eq_true rfl, Nat.le_of_ble_eq_true rfl⟩) (prV hP hK hD hO hAO hS (va_recv hK hP (ci := 1) (q0 := 0) rfl gY_0)) rfl rfl hl.1 rfl (lv_room (Nat.le_of_ble_eq_true rfl)) dX1_step_50 ⟨Nat.le_of_ble_eq_true rfl, Nat.le_of_ble_eq_true rfl⟩) hS (fun H locs hP hD hS => ?_)
    refine lv_if_eq hx hb dX1_step_53 (tgt := 71) rfl (fun hc => ?_) (fun hc => ?_)
    · have h := br_T hc h
      refine lv_iconst (v := (-1)) hx hb dX1_step_71 (by decide) ?_
      exact rt_i (w := (wY cI cZ cC cJ cA P)) hx hb hr hlk hP hD hS h dX1_step_72
    · have h := br_F hc h
      have hl := lv_sub hl [0, 1, 2, 3] (l' := [(0, .ref (P 0)), (1, .int v1), (2, .int v2), (3, .int v3)]) rfl
      exact b_ChipMapModel_step_56 hx hb hml hr hlk hgt hown hK hO hAO M1 v1 v2 v3 H _ ls hl hP hD hS h
set_option maxHeartbeats 4000000 in
set_option maxRecDepth 20000 in
theorem b_ChipMapModel_step_0 {p : Program} {l : Launch} {e : Env} {s s0 : State} {m : MethodId} {args : Array Value} {below : List Frame} {meth : Method} {c : Code} {D : va_G} {cI cZ cC cJ cA : ClassId} {P : Nat → Nat} {M' : Mm} {r' : Int32}  (hx : p.tables.exec = Jvm.exec) (hb : c.code = cX1_step) (hml : c.maxLocals = 4) (hr : meth.sig.returnType = (some .int)) (hlk : meth.locks = false) (hgt : ∀ w ∈ GT, w.before args s = true) (hown : s.vm.findClass RX1 = some m.cls) (hK : va_K D vwCl [(cI, .int), (cZ, .boolean), (cC, .char), (cJ, .long), (cA, .array .int)] s) (hO : Old s0 s) (hAO : ∀ q, (aP P 51) q → s0.heap.size ≤ q)  : ∀ (M : Mm) (a1 : Int32) (a2 : Int32) (a3 : Int32) (H : Heap) (locs : List Loc) (ls : Array Slot), lv_has ls 4 [(0, .ref (P 0)), (1, .int a1), (2, .int a2), (3, .int a3)] → va_P D vwCl ((wY cI cZ cC cJ cA P) M) H → va_D (aP P 51) ((wY cI cZ cC cJ cA P) M) → va_S (aP P 51) s.heap H locs → q_ChipMapModel_step M a1 a2 a3 = some (M', r') → W p l e ({ frames := 2, cells := 0, slots := 0, locals := 44 }) s m args below meth c H locs 0 0 (MQ below (gQi D (aP P 51) ((wY cI cZ cC cJ cA P) M') r') args s 0 0 (aP P 51)) (F0 m 0 ls []) := by
  intro M a1 a2 a3 H locs ls hl hP hD hS h
  unfold q_ChipMapModel_step at h
  refine lv_aload_n hx hb dX1_step_0 rfl (lv_at hl 0 rfl) ?_
  refine lv_iconst (v := 0) hx hb dX1_step_1 (by decide) ?_
  refine pm_put (w := (wY cI cZ cC cJ cA P)) (D := D) (ci := 1) (x := 0) (ty := .int) (C := RX1) (T := TX1) (N := 76) hx hb hgt iwX1 tyX1 tyX1_ok nmX1 hown hK hP hD hS 0 gY_0 rfl 0 (Nat.le_of_ble_eq_true rfl) (hgt _ wd_4_201) (fun _ h9 => h9) rfl (by decide +kernel) rfl rfl (Nat.le_of_ble_eq_true rfl) (sY_0_0 _) dX1_step_2 (fun M1 eM1 H locs hP hD hS => ?_)
  have h := lt_o eM1 h
  refine lv_aload_n hx hb dX1_step_5 rfl (lv_at hl 0 rfl) ?_
  refine va_get (D := D) (ci := 1) (v := .int (M1.1 0 27)) (C := RX1) (T := TX1) (N := 76) hx hb hgt iwX1 hown hK hP 0 gY_0 rfl 27 (Nat.le_of_ble_eq_true rfl) (hgt _ wd_4_228) (fun _ h9 => h9) rfl dX1_step_6 ?_
  refine lv_if_eq hx hb dX1_step_9 (tgt := 71) rfl (fun hc => ?_) (fun hc => ?_)
  · have h := br_T hc h
    refine lv_iconst (v := (-1)) hx hb dX1_step_71 (by decide) ?_
    exact rt_i (w := (wY cI cZ cC cJ cA P)) hx hb hr hlk hP hD hS h dX1_step_72
  · have h := br_F hc h
    refine lv_aload_n hx hb dX1_step_12 rfl (lv_at hl 0 rfl) ?_
    refine va_get (D := D) (ci := 1) (v := .int (M1.1 0 59)) (C := RX1) (T := TX1) (N := 76) hx hb hgt iwX1 hown hK hP 0 gY_0 rfl 59 (Nat.le_of_ble_eq_true rfl) (hgt _ wd_5_20) (fun _ h9 => h9) rfl dX1_step_13 ?_
    refine lv_bipush (v := 40) hx hb dX1_step_16 (by decide) ?_
    refine lv_icmp_eq hx hb dX1_step_18 (tgt := 71) rfl (fun hc => ?_) (fun hc => ?_)
    · have h := br_T hc h
      refine lv_iconst (v := (-1)) hx hb dX1_step_71 (by decide) ?_
      exact rt_i (w := (wY cI cZ cC cJ cA P)) hx hb hr hlk hP hD hS h dX1_step_72
    · have h := br_F hc h
      refine lv_iload_n hx hb dX1_step_21 rfl (lv_at hl 1 rfl) ?_
      refine lv_if_lt hx hb dX1_step_22 (tgt := 71) rfl (fun hc => ?_) (fun hc => ?_)
      · have h := br_T hc h
        refine lv_iconst (v := (-1)) hx hb dX1_step_71 (by decide) ?_
        exact rt_i (w := (wY cI cZ cC cJ cA P)) hx hb hr hlk hP hD hS h dX1_step_72
      · have h := br_F hc h
        refine lv_iload_n hx hb dX1_step_25 rfl (lv_at hl 1 rfl) ?_
        refine lv_iconst (v := 3) hx hb dX1_step_26 (by decide) ?_
        refine lv_icmp_gt hx hb dX1_step_27 (tgt := 71) rfl (fun hc => ?_) (fun hc => ?_)
        · have h := br_T hc h
          refine lv_iconst (v := (-1)) hx hb dX1_step_71 (by decide) ?_
          exact rt_i (w := (wY cI cZ cC cJ cA P)) hx hb hr hlk hP hD hS h dX1_step_72
        · have h := br_F hc h
          refine lv_iload_n hx hb dX1_step_30 rfl (lv_at hl 1 rfl) ?_
          refine lv_if_ne hx hb dX1_step_31 (tgt := 43) rfl (fun hc => ?_) (fun hc => ?_)
          · have h := br_F hc h
            have hl := lv_sub hl [0, 1, 2, 3] (l' := [(0, .ref (P 0)), (1, .int a1), (2, .int a2), (3, .int a3)]) rfl
            exact b_ChipMapModel_step_43 hx hb hml hr hlk hgt hown hK hO hAO M1 a1 a2 a3 H _ ls hl hP hD hS h
          · have h := br_T hc h
            refine lv_aload_n hx hb dX1_step_34 rfl (lv_at hl 0 rfl) ?_
            refine lv_iload_n hx hb dX1_step_35 rfl (lv_at hl 2 rfl) ?_
            refine lv_iload_n hx hb dX1_step_36 rfl (lv_at hl 3 rfl) ?_
            obtain ⟨M2, r3, hq, h⟩ := cal_o h
            refine cx_i (va_runV (As := [.int a2, .int a3]) (rest := []) ⟨hx, hb, hml, hown, hgt⟩ (z_ChipMapModel_isPut l D cI cZ cC cJ cA P s0 hAO M1 a2 a3 M2 r3 hq) (cwV 2 hgt (gV wd_6_126 wd_6_128 sl__ChipMapModel____ChipMapModel___isPut____II_Z_____ChipMapModel___isPut____II_Z__ wd_0_15 wd_6_129) rfl rfl rfl (by decide +kernel) ⟨Nat.le_of_ble_eq_true rfl, Nat.le_of_ble_eq_true rfl⟩) (prV hP hK hD hO hAO hS (va_recv hK hP (ci := 1) (q0 := 0) rfl gY_0)) rfl rfl hl.1 rfl (lv_room (Nat.le_of_ble_eq_true rfl)) dX1_step_37 ⟨Nat.le_of_ble_eq_true rfl, Nat.le_of_ble_eq_true rfl⟩) hS (fun H locs hP hD hS => ?_)
            refine lv_if_eq hx hb dX1_step_40 (tgt := 71) rfl (fun hc => ?_) (fun hc => ?_)
            · have h := br_T hc h
              refine lv_iconst (v := (-1)) hx hb dX1_step_71 (by decide) ?_
              exact rt_i (w := (wY cI cZ cC cJ cA P)) hx hb hr hlk hP hD hS h dX1_step_72
            · have h := br_F hc h
              have hl := lv_sub hl [0, 1, 2, 3] (l' := [(0, .ref (P 0)), (1, .int a1), (2, .int a2), (3, .int a3)]) rfl
              exact b_ChipMapModel_step_43 hx hb hml hr hlk hgt hown hK hO hAO M2 a1 a2 a3 H _ ls hl hP hD hS h
set_option maxHeartbeats 4000000 in
set_option maxRecDepth 20000 in
theorem z_ChipMapModel_step (l : Launch) (D : va_G) (cI cZ cC cJ cA : ClassId) (P : Nat → Nat) (s0 : State) (hAO : ∀ q, (aP P 51) q → s0.heap.size ≤ q) (M : Mm) (a1 : Int32) (a2 : Int32) (a3 : Int32) (M' : Mm) (r' : Int32) (h : q_ChipMapModel_step M a1 a2 a3 = some (M', r')) : Met l yX1_step wsX1_step ({ frames := 2, cells := 0, slots := 0, locals := 44 }) (va_Pc [.ref (P 0), .int a1, .int a2, .int a3] (gPre s0 D [(cI, .int), (cZ, .boolean), (cC, .char), (cJ, .long), (cA, .array .int)] (aP P 51) ((wY cI cZ cC cJ cA P) M))) (gQi D (aP P 51) ((wY cI cZ cC cJ cA P) M') r') 0 0 (aP P 51) := by
  refine Met.ofW (cc := cX1_step) (maxL := 4) (ret := (some .int)) (by decide) rfl ?_
  intro p e s m args below meth c s₁ B hml hv
  obtain ⟨rfl, hP, hK, hD, hO⟩ := hv
  have hx := B.exec
  have hb := B.bytes
  have hr := B.returns
  have hlk := B.notSynchronized
  have hgt := fun w (h : w ∈ GT) => atoms_spec (ws := wsX1_step) B.pre w (List.mem_cons_of_mem _ h)
  have hown : s.vm.findClass RX1 = some m.cls := findClass_of_methodNamed B.named
  have hS : va_S (aP P 51) s.heap s.heap [] := va_S.rf
  have hl := lv_entry ([.ref (P 0), .int a1, .int a2, .int a3]) (n := 4) (Nat.le_of_ble_eq_true rfl)
  rw [lg_entry_eq]
  generalize (lg_sl ([.ref (P 0), .int a1, .int a2, .int a3]) ++ List.replicate (4 - (lg_sl ([.ref (P 0), .int a1, .int a2, .int a3])).length) Slot.unset).toArray = ls at hl ⊢
  have hl : lv_has ls 4 [(0, .ref (P 0)), (1, .int a1), (2, .int a2), (3, .int a3)] := hl
  exact b_ChipMapModel_step_0 hx hb hml hr hlk hgt hown hK hO hAO M a1 a2 a3 s.heap [] ls hl hP hD hS h
def q_ChipMapModel_erase  (M : Mm)  : Rs := lt' (stI M 0 (upd (M.1 0) 0 0)) fun M1 => lt' (M1.1 0 59) fun x2 => lt' (stI M1 0 (upd (M1.1 0) 59 0)) fun M3 => some (M3, x2)
set_option maxHeartbeats 4000000 in
set_option maxRecDepth 20000 in
theorem b_ChipMapModel_erase_0 {p : Program} {l : Launch} {e : Env} {s s0 : State} {m : MethodId} {args : Array Value} {below : List Frame} {meth : Method} {c : Code} {D : va_G} {cI cZ cC cJ cA : ClassId} {P : Nat → Nat} {M' : Mm} {r' : Int32}  (hx : p.tables.exec = Jvm.exec) (hb : c.code = cX1_erase) (hml : c.maxLocals = 2) (hr : meth.sig.returnType = (some .int)) (hlk : meth.locks = false) (hgt : ∀ w ∈ GT, w.before args s = true) (hown : s.vm.findClass RX1 = some m.cls) (hK : va_K D vwCl [(cI, .int), (cZ, .boolean), (cC, .char), (cJ, .long), (cA, .array .int)] s) (hO : Old s0 s) (hAO : ∀ q, (aP P 51) q → s0.heap.size ≤ q)  : ∀ (M : Mm)  (H : Heap) (locs : List Loc) (ls : Array Slot), lv_has ls 2 [(0, .ref (P 0))] → va_P D vwCl ((wY cI cZ cC cJ cA P) M) H → va_D (aP P 51) ((wY cI cZ cC cJ cA P) M) → va_S (aP P 51) s.heap H locs → q_ChipMapModel_erase M = some (M', r') → W p l e ({ frames := 0, cells := 0, slots := 0, locals := 0 }) s m args below meth c H locs 0 0 (MQ below (gQi D (aP P 51) ((wY cI cZ cC cJ cA P) M') r') args s 0 0 (aP P 51)) (F0 m 0 ls []) := by
  intro M H locs ls hl hP hD hS h
  unfold q_ChipMapModel_erase at h
  refine lv_aload_n hx hb dX1_erase_0 rfl (lv_at hl 0 rfl) ?_
  refine lv_iconst (v := 0) hx hb dX1_erase_1 (by decide) ?_
  refine pm_put (w := (wY cI cZ cC cJ cA P)) (D := D) (ci := 1) (x := 0) (ty := .int) (C := RX1) (T := TX1) (N := 76) hx hb hgt iwX1 tyX1 tyX1_ok nmX1 hown hK hP hD hS 0 gY_0 rfl 0 (Nat.le_of_ble_eq_true rfl) (hgt _ wd_4_201) (fun _ h9 => h9) rfl (by decide +kernel) rfl rfl (Nat.le_of_ble_eq_true rfl) (sY_0_0 _) dX1_erase_2 (fun M1 eM1 H locs hP hD hS => ?_)
  have h := lt_o eM1 h
  refine lv_aload_n hx hb dX1_erase_5 rfl (lv_at hl 0 rfl) ?_
  refine va_get (D := D) (ci := 1) (v := .int (M1.1 0 59)) (C := RX1) (T := TX1) (N := 76) hx hb hgt iwX1 hown hK hP 0 gY_0 rfl 59 (Nat.le_of_ble_eq_true rfl) (hgt _ wd_5_20) (fun _ h9 => h9) rfl dX1_erase_6 ?_
  refine lv_topi (fun x2 ex2 => ?_)
  have h := lt_o ex2 h
  refine lv_istore_n hx hb dX1_erase_9 rfl hl (Nat.le_of_ble_eq_true rfl) (lv' := [(1, .int x2), (0, .ref (P 0))]) rfl (fun ls hl => ?_)
  refine lv_aload_n hx hb dX1_erase_10 rfl (lv_at hl 1 rfl) ?_
  refine lv_iconst (v := 0) hx hb dX1_erase_11 (by decide) ?_
  refine pm_put (w := (wY cI cZ cC cJ cA P)) (D := D) (ci := 1) (x := 0) (ty := .int) (C := RX1) (T := TX1) (N := 76) hx hb hgt iwX1 tyX1 tyX1_ok nmX1 hown hK hP hD hS 0 gY_0 rfl 59 (Nat.le_of_ble_eq_true rfl) (hgt _ wd_5_20) (fun _ h9 => h9) rfl (by decide +kernel) rfl rfl (Nat.le_of_ble_eq_true rfl) (sY_0_59 _) dX1_erase_12 (fun M3 eM3 H locs hP hD hS => ?_)
  have h := lt_o eM3 h
  refine lv_iload_n hx hb dX1_erase_15 rfl (lv_at hl 0 rfl) ?_
  exact rt_i (w := (wY cI cZ cC cJ cA P)) hx hb hr hlk hP hD hS h dX1_erase_16
set_option maxHeartbeats 4000000 in
set_option maxRecDepth 20000 in
theorem z_ChipMapModel_erase (l : Launch) (D : va_G) (cI cZ cC cJ cA : ClassId) (P : Nat → Nat) (s0 : State) (hAO : ∀ q, (aP P 51) q → s0.heap.size ≤ q) (M : Mm)  (M' : Mm) (r' : Int32) (h : q_ChipMapModel_erase M = some (M', r')) : Met l yX1_erase wsX1_erase ({ frames := 0, cells := 0, slots := 0, locals := 0 }) (va_Pc [.ref (P 0)] (gPre s0 D [(cI, .int), (cZ, .boolean), (cC, .char), (cJ, .long), (cA, .array .int)] (aP P 51) ((wY cI cZ cC cJ cA P) M))) (gQi D (aP P 51) ((wY cI cZ cC cJ cA P) M') r') 0 0 (aP P 51) := by
  refine Met.ofW (cc := cX1_erase) (maxL := 2) (ret := (some .int)) (by decide) rfl ?_
  intro p e s m args below meth c s₁ B hml hv
  obtain ⟨rfl, hP, hK, hD, hO⟩ := hv
  have hx := B.exec
  have hb := B.bytes
  have hr := B.returns
  have hlk := B.notSynchronized
  have hgt := fun w (h : w ∈ GT) => atoms_spec (ws := wsX1_erase) B.pre w (List.mem_cons_of_mem _ h)
  have hown : s.vm.findClass RX1 = some m.cls := findClass_of_methodNamed B.named
  have hS : va_S (aP P 51) s.heap s.heap [] := va_S.rf
  have hl := lv_entry ([.ref (P 0)]) (n := 2) (Nat.le_of_ble_eq_true rfl)
  rw [lg_entry_eq]
  generalize (lg_sl ([.ref (P 0)]) ++ List.replicate (2 - (lg_sl ([.ref (P 0)])).length) Slot.unset).toArray = ls at hl ⊢
  have hl : lv_has ls 2 [(0, .ref (P 0))] := hl
  exact b_ChipMapModel_erase_0 hx hb hml hr hlk hgt hown hK hO hAO M s.heap [] ls hl hP hD hS h
end
